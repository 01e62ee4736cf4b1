/-! the law's start and its loop -/
theorem zV0_inv : zInv 0 zV0 :=
  ⟨⟨fun t ht => ⟨Or.inl (zV0_z (by omega)), Or.inl (zV0_z (by omega))⟩, fun t ht => by rw [zV0_a ht, zV0_b ht]; decide, by unfold iS; decide +kernel, fun s hs k => absurd (zV0_z (by omega)) k, fun j hj => zV0_z (by omega)⟩, by unfold iA; decide +kernel⟩
theorem zg0_fl {i : Nat} (h : i < 6) : zFl (zg0 i) := by
  rw [zg0_s h]
  exact zV0_inv.1.1
theorem zg0_z {i j : Nat} (h : i < 6) (hj : 160 ≤ j) : zg0 i j = 0 := by
  rw [zg0_s h]
  exact zV0_z (by omega)
theorem zg0_jk {i i2 : Nat} (h : i < 6) (h2 : i2 < 6) : ∀ j, 160 ≤ j → zg0 i j = zg0 i2 j := fun j hj => (zg0_z h hj).trans (zg0_z h2 hj).symm
theorem zT_r {g : Mem} {u w t n : V} {r : Nat} (h6 : r ≠ 6) (h8 : r ≠ 8) (h9 : r ≠ 9) (h17 : r ≠ 17) : zT g u w t n r = g r := by
  unfold zT
  rw [zUp_n _ _ h6, zUp_n _ _ h17, zUp_n _ _ h9, zUp_n _ _ h8]
theorem zM0 {u1 w1 t1 n1 : V} (hu : ∀ j, j ≠ 3 → j ≠ 4 → u1 j = zg0 6 j) : zMm 0 (zT zg0 u1 w1 t1 n1) ∧ zT zg0 u1 w1 t1 n1 0 = zV0 := by
  have e0 : zT zg0 u1 w1 t1 n1 0 = zV0 := (zT_r (by omega) (by omega) (by omega) (by omega)).trans (zg0_s (by omega))
  refine ⟨⟨by rw [e0]; exact zV0_inv, ⟨0, by omega, ?_⟩, ⟨0, by omega, ?_⟩, fun r hr j hj => ?_⟩, e0⟩
  · rw [zT_6, hu 0 (by omega) (by omega)]
    rfl
  · rw [zT_6, hu 1 (by omega) (by omega)]
    rfl
  · rw [zT_r (by omega) (by omega) (by omega) (by omega)]
    exact zg0_z hr hj
theorem kAll_0 : kAll (zg0 7) 0 (zg0 0) = (-100, none) := rfl
section LS
variable {p : Program} {l : Launch} {e : Env} {s : State} {m : MethodId} {args : Array Value} {below : List Frame} {meth : Method} {c : Code} {H : Heap} {locs : List Loc} {Q : State → Prop}
variable {ls : Array Slot} {D : va_G} {k : Nat → ClassId} {a : Nat → Nat → Nat} {G : Mem} {b N : Nat} {xs : Nat → Int32}
set_option maxRecDepth 100000 in
set_option maxHeartbeats 4000000 in
theorem lw_s0 (Y0 : lwC p m c s args D k a b N xs)  (hH : zH D k a s (zg0) H locs) (hl : lv_has ls 25 [(1, .ref (a 6 0)), (0, .ref b)]) (kk : ∀ (G1 : Mem) (H : Heap) (locs : List Loc) (ls : Array Slot), zMm 0 G1 → G1 0 = zV0 → zH D k a s (G1) H locs → lv_has ls 25 [(1, .ref (a 6 0)), (0, .ref b)] → W p l e room_1 s m args below meth c H locs 128 1206 Q (F0 m 35 ls [])) : W p l e room_1 s m args below meth c H locs 128 1206 Q (F0 m 8 ls []) := by
  have X := Y0.1
  obtain ⟨hx, hb, hml, hown, hts⟩ := X.1
  refine lv_aload_n hx hb dL_law_8 rfl (lv_at hl 0 rfl) ?_
  refine z_callVi X hH (c_X5_undo l D k a zg0 0 (by omega) rfl (zg0_fl (by omega)) (zg0_jk (by omega) (by omega))) k_L_61 (rv_X5 X hH) [] rfl rfl hl.1 (Nat.le_of_ble_eq_true rfl) ⟨Nat.le_of_ble_eq_true rfl, Nat.le_of_ble_eq_true rfl⟩ ⟨Nat.le_of_ble_eq_true rfl, Nat.le_of_ble_eq_true rfl⟩ dL_law_9 (fun r1 g2 H locs h3 hH => ?_)
  rw [show kUndo zg0 = (-4) from if_pos rfl, show kUndoG zg0 = zg0 from if_pos rfl] at h3
  rw [h3.2] at hH
  rw [h3.1]
  refine lv_bipush (v := (-4)) hx hb dL_law_12 (by decide) ?_
  refine lv_icmp_ne (tgt := 75) hx hb dL_law_14 (by decide) (fun q => absurd rfl q) (fun _ => ?_)
  refine lv_aload_n hx hb dL_law_17 rfl (lv_at hl 0 rfl) ?_
  refine z_callVi X hH (c_X5_restore l D k a zg0 0 (by omega) rfl (zg0_fl (by omega)) (zg0_jk (by omega) (by omega)) (zg0_fl (by omega)) (zg0_jk (by omega) (by omega))) k_L_64 (rv_X5 X hH) [] rfl rfl hl.1 (Nat.le_of_ble_eq_true rfl) ⟨Nat.le_of_ble_eq_true rfl, Nat.le_of_ble_eq_true rfl⟩ ⟨Nat.le_of_ble_eq_true rfl, Nat.le_of_ble_eq_true rfl⟩ dL_law_18 (fun r4 g5 H locs h6 hH => ?_)
  rw [show kRest zg0 = (-4) from if_pos rfl, show kRestG zg0 = zg0 from if_pos rfl] at h6
  rw [h6.2] at hH
  rw [h6.1]
  refine lv_bipush (v := (-4)) hx hb dL_law_21 (by decide) ?_
  refine lv_icmp_ne (tgt := 75) hx hb dL_law_23 (by decide) (fun q => absurd rfl q) (fun _ => ?_)
  refine lv_aload_n hx hb dL_law_26 rfl (lv_at hl 0 rfl) ?_
  refine z_callVi X hH (c_X5_askAll l D k a zg0 0 (by omega) rfl (zg0_fl (by omega)) (zg0_jk (by omega) (by omega)) 0 rfl (by omega)) k_L_67 (rv_X5 X hH) [] rfl rfl hl.1 (Nat.le_of_ble_eq_true rfl) ⟨Nat.le_of_ble_eq_true rfl, Nat.le_of_ble_eq_true rfl⟩ ⟨Nat.le_of_ble_eq_true rfl, Nat.le_of_ble_eq_true rfl⟩ dL_law_27 (fun r7 g8 H locs h9 hH => ?_)
  obtain ⟨u1, w1, t1, n1, hu, er, eg⟩ := h9
  rw [kAll_0] at er eg
  rw [er]
  have hH : zH D k a s (zT zg0 u1 w1 t1 n1) H locs := by rw [eg] at hH; exact hH
  show W p l e room_1 s m args below meth c H locs 128 1206 Q (F0 m 30 ls [.int (-100)])
  refine lv_bipush (v := (-100)) hx hb dL_law_30 (by decide) ?_
  refine lv_icmp_ne (tgt := 75) hx hb dL_law_32 (by decide) (fun q => absurd rfl q) (fun _ => ?_)
  refine kk (zT zg0 u1 w1 t1 n1) _ _ _ (zM0 hu).1 (zM0 hu).2 ?_ ?_
  · exact hH
  · exact lv_sub hl [0, 1] rfl
set_option maxRecDepth 100000 in
set_option maxHeartbeats 4000000 in
theorem lw_sb (Y0 : lwC p m c s args D k a b N xs) (hG0 : G 0 = zV0) (hf : zFl (G 0)) (hI : zInv 0 (G 0)) (x : Nat) (hx4 : x < 4) (e6 : G 6 0 = nI x) (hjk : ∀ j, 160 ≤ j → G (2 + x) j = G 0 j) (hH : zH D k a s (G) H locs) (hl : lv_has ls 25 [(1, .ref (a 6 0)), (0, .ref b)]) (kk : ∀  (H : Heap) (locs : List Loc) (ls : Array Slot), zH D k a s (G) H locs → lv_has ls 25 [(3, .int 0), (2, .int 1), (1, .ref (a 6 0)), (0, .ref b)] → W p l e room_1 s m args below meth c H locs 128 1206 Q (F0 m 79 ls [])) : W p l e room_1 s m args below meth c H locs 128 1206 Q (F0 m 35 ls []) := by
  have X := Y0.1
  obtain ⟨hx, hb, hml, hown, hts⟩ := X.1
  refine lv_aload_n hx hb dL_law_35 rfl (lv_at hl 0 rfl) ?_
  refine z_callVi X hH (c_X5_oldest l D k a G) k_L_50 (rv_X5 X hH) [] rfl rfl hl.1 (Nat.le_of_ble_eq_true rfl) ⟨Nat.le_of_ble_eq_true rfl, Nat.le_of_ble_eq_true rfl⟩ ⟨Nat.le_of_ble_eq_true rfl, Nat.le_of_ble_eq_true rfl⟩ dL_law_36 (fun r1 g2 H locs h3 hH => ?_)
  rw [show fOldest (G 0) = (-4) from by rw [hG0]; rfl] at h3
  rw [h3.2] at hH
  rw [h3.1]
  refine lv_bipush (v := (-4)) hx hb dL_law_39 (by decide) ?_
  refine lv_icmp_ne (tgt := 75) hx hb dL_law_41 (by decide) (fun q => absurd rfl q) (fun _ => ?_)
  refine lv_aload_n hx hb dL_law_44 rfl (lv_at hl 0 rfl) ?_
  refine lv_iconst (v := 0) hx hb dL_law_45 (by decide) ?_
  refine z_callVi X hH (c_X5_throwOut l D k a G x hx4 e6 hf hjk 0) k_L_19 (rv_X5 X hH) [] rfl rfl hl.1 (Nat.le_of_ble_eq_true rfl) ⟨Nat.le_of_ble_eq_true rfl, Nat.le_of_ble_eq_true rfl⟩ ⟨Nat.le_of_ble_eq_true rfl, Nat.le_of_ble_eq_true rfl⟩ dL_law_46 (fun r4 g5 H locs h6 hH => ?_)
  rw [show kThrow (G 0) 0 = ((-1), none) from by rw [hG0]; rfl] at h6
  rw [h6.2] at hH
  rw [h6.1]
  have hH : zH D k a s G H locs := hH
  refine lv_iconst (v := (-1)) hx hb dL_law_49 (by decide) ?_
  refine lv_icmp_ne (tgt := 75) hx hb dL_law_50 (by decide) (fun q => absurd rfl q) (fun _ => ?_)
  refine lv_aload_n hx hb dL_law_53 rfl (lv_at hl 0 rfl) ?_
  refine lv_iconst (v := 5) hx hb dL_law_54 (by decide) ?_
  refine lv_iconst (v := 1) hx hb dL_law_55 (by decide) ?_
  refine z_callVi X hH (c_X5_reason l D k a G 5 1) k_L_37 (rv_X5 X hH) [] rfl rfl hl.1 (Nat.le_of_ble_eq_true rfl) ⟨Nat.le_of_ble_eq_true rfl, Nat.le_of_ble_eq_true rfl⟩ ⟨Nat.le_of_ble_eq_true rfl, Nat.le_of_ble_eq_true rfl⟩ dL_law_56 (fun r7 g8 H locs h9 hH => ?_)
  rw [show kReason (G 0) 5 1 = (1) from by rw [hG0]; rfl] at h9
  rw [h9.2] at hH
  rw [h9.1]
  refine lv_iconst (v := 1) hx hb dL_law_59 (by decide) ?_
  refine lv_icmp_ne (tgt := 75) hx hb dL_law_60 (by decide) (fun q => absurd rfl q) (fun _ => ?_)
  refine lv_aload_n hx hb dL_law_63 rfl (lv_at hl 0 rfl) ?_
  refine lv_iconst (v := 5) hx hb dL_law_64 (by decide) ?_
  refine z_callSi X hH (c_L_hangs l D k a G x hx4 e6 hjk 0 (by decide) hI 5 (by omega)) k_L_70 [] rfl rfl hl.1 (Nat.le_of_ble_eq_true rfl) ⟨Nat.le_of_ble_eq_true rfl, Nat.le_of_ble_eq_true rfl⟩ ⟨Nat.le_of_ble_eq_true rfl, Nat.le_of_ble_eq_true rfl⟩ dL_law_65 (fun r10 g11 H locs h12 hH => ?_)
  rw [h12.2] at hH
  rw [h12.1]
  refine lv_if_eq (tgt := 75) hx hb dL_law_68 (by decide) (fun q => absurd q (by decide)) (fun _ => ?_)
  refine lv_iconst (v := 1) hx hb dL_law_71 (by decide) ?_
  refine lv_goto (tgt := 76) hx hb dL_law_72 (by decide) ?_
  refine lv_istore_n (lv' := [(2, .int 1), (1, .ref (a 6 0)), (0, .ref b)]) hx hb dL_law_76 rfl hl (by decide) rfl (fun ls hl => ?_)
  refine lv_iconst (v := 0) hx hb dL_law_77 (by decide) ?_
  refine lv_istore_n (lv' := [(3, .int 0), (2, .int 1), (1, .ref (a 6 0)), (0, .ref b)]) hx hb dL_law_78 rfl hl (by decide) rfl (fun ls hl => ?_)
  refine kk  _ _ _  ?_ ?_
  · exact hH
  · exact lv_sub hl [0, 1, 2, 3] rfl
set_option maxRecDepth 100000 in
set_option maxHeartbeats 4000000 in
theorem lw_loop (Y0 : lwC p m c s args D k a b N xs) (hend : ∀ (G : Mem) (H : Heap) (locs : List Loc) (ls : Array Slot), zH D k a s G H locs → W p l e room_1 s m args below meth c H locs 128 1206 Q (F0 m 1077 ls [.int 1])) : ∀ (d i : Nat), i + d = 34 → ∀ (G : Mem) (H : Heap) (locs : List Loc) (ls : Array Slot), zMm (i : Int) G → zH D k a s G H locs → lv_has ls 25 [(3, .int (nI i)), (2, .int 1), (1, .ref (a 6 0)), (0, .ref b)] → W p l e room_1 s m args below meth c H locs 128 1206 Q (F0 m 79 ls []) := by
  have X := Y0.1
  obtain ⟨hx, hb, hml, hown, hts⟩ := X.1
  intro d
  induction d with
  | zero =>
    intro i hd G H locs ls hZ hH hl
    obtain ⟨hI, ⟨x, hx4, e6⟩, ⟨S, hS, e1⟩, hj⟩ := hZ
    have hjk : ∀ j, 160 ≤ j → G (2 + x) j = G 0 j := fun j q => (hj _ (by omega) j q).trans (hj 0 (by omega) j q).symm
    refine lv_iload_n hx hb dL_law_79 rfl (lv_at hl 0 rfl) ?_
    refine lv_bipush (v := 34) hx hb dL_law_80 (by decide) ?_
    refine n_icmp_ge (A := i) (B := 34) (tgt := 822) hx hb (by omega) (by omega) dL_law_82 (by decide) (fun _ => ?_) (fun q => absurd q (by omega))
    exact lw_s7 Y0 hI.1.1 x hx4 e6 hjk hH (lv_sub hl [1, 2, 3] rfl) (fun H locs ls hH => hend G H locs ls hH)
  | succ d ih =>
    intro i hd G H locs ls hZ hH hl
    have hZ0 := hZ
    obtain ⟨hI, ⟨x, hx4, e6⟩, ⟨S, hS, e1⟩, hj⟩ := hZ
    have hjk : ∀ j, 160 ≤ j → G (2 + x) j = G 0 j := fun j q => (hj _ (by omega) j q).trans (hj 0 (by omega) j q).symm
    have hf := hI.1.1
    have hB : 0 ≤ (i : Int) ∧ (i : Int) ≤ 1000 := by omega
    refine lv_iload_n hx hb dL_law_79 rfl (lv_at hl 0 rfl) ?_
    refine lv_bipush (v := 34) hx hb dL_law_80 (by decide) ?_
    refine n_icmp_ge (A := i) (B := 34) (tgt := 822) hx hb (by omega) (by omega) dL_law_82 (by decide) (fun q => absurd q (by omega)) (fun _ => ?_)
    refine lv_iload_n hx hb dL_law_85 rfl (lv_at hl 1 rfl) ?_
    refine lv_if_eq (tgt := 822) hx hb dL_law_86 (by decide) (fun q => absurd q (by decide)) (fun _ => ?_)
    refine lw_s1 Y0 (by omega) hH hl (fun Y H locs ls hY hH hl => ?_)
    have hz : Y / 16 % 9 < 12 := by omega
    refine lw_s2 Y0 hz aN_m hf hH hl (fun H locs ls hH hl => ?_)
    refine lw_s3 Y0 hz aN_m hf hI hH hl (fun H locs ls hH hl => ?_)
    refine lw_s4 Y0 hB hI hf x hx4 e6 hjk S hS e1 hY hH hl (fun t o H locs ls ea hst hH hl => ?_)
    have key : zMm ((i : Int) + 1) (zAct G o) ∧ (3 < Y % 16 → t = (fAsk (G 0) (Y / 16 % 9) (nI (aN Y))).1 ∧ zAct G o 0 = (fAsk (G 0) (Y / 16 % 9) (nI (aN Y))).2) ∧ (Y % 16 = 2 → ¬ t < 0 → t = fK (zAct G o 0) 12) := by
      cases o with
      | none =>
        refine ⟨⟨zInv_mono (by omega) hI, ⟨x, hx4, e6⟩, ⟨S, hS, e1⟩, hj⟩, fun q => ?_, fun _ q => absurd hst q⟩
        have w := ea.symm.trans (aAct_ask rfl rfl q)
        injection w with w1 w2
        cases w2
      | some w1 =>
        refine ⟨zMm_act hZ0 hst.2, fun q => ?_, fun q _ => ?_⟩
        · have w := ea.symm.trans (aAct_ask rfl rfl q)
          injection w with w1 w2
          injection w2 with w2
          exact ⟨w1, zAct_0.trans w2⟩
        · rw [zAct_0]
          exact aAct_2 q ea
    obtain ⟨hZ1, hA, h2⟩ := key
    generalize zAct G o = G1 at hH hZ1 hA h2
    have hZ2 := hZ1
    obtain ⟨hI1, ⟨x1, hx1, e61⟩, -, hj1⟩ := hZ1
    have hjk1 : ∀ j, 160 ≤ j → G1 (2 + x1) j = G1 0 j := fun j q => (hj1 _ (by omega) j q).trans (hj1 0 (by omega) j q).symm
    refine lw_s5 Y0 hz aN_m hB hI hI1.1.1 hI1 hA h2 hH hl (fun H locs ls hH hl => ?_)
    refine lw_s6 Y0 (by omega) hz aN_m (B := (i : Int) + 1) (by omega) hI1 x1 hx1 e61 hjk1 hH hl (fun H locs ls hH hl => ?_)
    exact ih (i + 1) (by omega) G1 H locs ls hZ2 hH hl
end LS
