/-! the law's loop: what stands fast, reads of the script -/
def lwC (p : Program) (m : MethodId) (c : Code) (s : State) (args : Array Value) (D : va_G) (k : Nat → ClassId) (a : Nat → Nat → Nat) (b N : Nat) (xs : Nat → Int32) : Prop := zC p m c code 4 s args RL D k a ∧ va_X b N xs s s.heap ∧ b < s.heap.size ∧ ¬ zA a b ∧ N ≤ 3072
abbrev lwI (a : Nat → Nat → Nat) (b i : Nat) (ls : Array Slot) : Prop := lv_has ls 4 [(3, .int (nI i)), (2, .ref (a 6 8)), (1, .ref (a 6 0)), (0, .ref b)]
def zBo (x : Int32) : Int32 := if x = 0 then 0 else 1
theorem zBo_b (x : Int32) : zBo x = 0 ∨ zBo x = 1 := by
  unfold zBo
  by_cases h : x = 0
  · rw [if_pos h]; exact Or.inl rfl
  · rw [if_neg h]; exact Or.inr rfl
def zChr (x : Int32) : Int32 := (x.toUInt32 % 65536).toInt32
theorem zChr_n (x : Int32) : vp_nar .char (zChr x) = zChr x := pk_vc x
theorem kTypeG_o {G : Mem} {ch : Int32} {r : Nat} (h6 : r ≠ 6) (h7 : r ≠ 7) : kTypeG G ch r = G r := by
  unfold kTypeG
  by_cases h : G 6 2 < 80
  · rw [if_pos h, zUp_n _ _ h6, zUp_n _ _ h7]
  · rw [if_neg h]
theorem kUndoG_o {G : Mem} {r : Nat} (h : 7 ≤ r) : kUndoG G r = G r := by
  unfold kUndoG
  by_cases q : G 6 1 = 0
  · rw [if_pos q]
  · rw [if_neg q]
    unfold zBack zBackX
    rw [zUp_n _ _ (by omega), zUp_n _ _ (by omega)]
theorem kKeepG_o {G : Mem} {r : Nat} (h : 7 ≤ r) : kKeepG G r = G r := by
  unfold kKeepG
  rw [zUp_n _ _ (by omega), zUp_n _ _ (by omega)]
theorem kRestG_o {G : Mem} {x r : Nat} (hx : x < 4) (r1 : G 6 0 = nI x) (h : 7 ≤ r) : kRestG G r = G r := by
  unfold kRestG
  by_cases q : G 6 5 = 0
  · rw [if_pos q]
  · rw [if_neg q]
    exact zAct_o (o := some (G 1)) hx r1 h
theorem zAll_o {G G1 : Mem} {x N r : Nat} {t : Int32} (hx : x < 4) (r1 : G 6 0 = nI x) (q : zAll G N t G1) (h : 7 ≤ r) (h8 : r ≠ 8) (h9 : r ≠ 9) (h17 : r ≠ 17) : G1 r = G r := by
  obtain ⟨u1, w1, t1, n1, hu, -, rfl⟩ := q
  rw [zAct_o (x := x) hx (by
    unfold zT
    rw [zUp_s, hu 0 (by omega) (by omega)]
    exact r1) h]
  unfold zT
  rw [zUp_n _ _ (show r ≠ 6 by omega), zUp_n _ _ h17, zUp_n _ _ h9, zUp_n _ _ h8]
section LCS
variable {p : Program} {l : Launch} {e : Env} {s : State} {m : MethodId} {args : Array Value} {below : List Frame} {meth : Method} {c : Code} {H : Heap} {locs : List Loc} {Q : State → Prop}
variable {pc : Nat} {ls : Array Slot} {rest : List Value} {D : va_G} {k : Nat → ClassId} {a : Nat → Nat → Nat} {G : Mem} {b N i : Nat} {xs : Nat → Int32}
theorem l_rd (Y : lwC p m c s args D k a b N xs) (hH : zH D k a s G H locs) (hi : i + 6 ≤ N) (hl : lwI a b i ls) (d : Nat) (hd : d < 6) {di : Int} (hdi : Int32.ofInt di = nI d) (d1 : decode code pc = .ok (.aload_n 0, 1)) (d2 : decode code (pc + 1) = .ok (.iload_n 3, 1)) (d3 : decode code (pc + 2) = .ok (.iconst di, 1)) (d4 : decode code (pc + 3) = .ok (.iadd, 1)) (d5 : decode code (pc + 4) = .ok (.iaload, 1))
    (kk : W p l e room_1 s m args below meth c H locs 131 2418 Q (F0 m (pc + 5) ls (.int (xs (i + d)) :: rest))) : W p l e room_1 s m args below meth c H locs 131 2418 Q (F0 m pc ls rest) := by
  obtain ⟨X, hX, hbl, hbA, hN⟩ := Y
  obtain ⟨hx, hb, hml, hown, hts⟩ := X.1
  refine lv_aload_n hx hb d1 rfl (lv_at hl 3 rfl) ?_
  refine lv_iload_n hx hb d2 rfl (lv_at hl 0 rfl) ?_
  refine lv_iconst hx hb d3 hdi ?_
  refine lv_iadd hx hb d4 ?_
  rw [nI_add]
  refine va_sld hx hb hX hbl hbA hH.2 (z_vpin (show i + d < N by omega) (by omega)) d5 ?_
  rw [z_cl (show i + d < N by omega) (by omega)]
  exact kk
theorem l_bo (Y : lwC p m c s args D k a b N xs) {x : Int32} (d1 : decode code pc = .ok (.ifCond .eq 7, 3)) (d2 : decode code (pc + 3) = .ok (.iconst 1, 1)) (d3 : decode code (pc + 4) = .ok (.goto 4, 3)) (d4 : decode code (pc + 7) = .ok (.iconst 0, 1))
    (kk : W p l e room_1 s m args below meth c H locs 131 2418 Q (F0 m (pc + 8) ls (.int (zBo x) :: rest))) : W p l e room_1 s m args below meth c H locs 131 2418 Q (F0 m pc ls (.int x :: rest)) := by
  obtain ⟨hx, hb, hml, hown, hts⟩ := Y.1.1
  unfold zBo at kk
  refine lv_if_eq (tgt := pc + 7) hx hb d1 (by omega) (fun q => ?_) (fun q => ?_)
  · rw [if_pos q] at kk
    refine lv_iconst (v := 0) hx hb d4 (by decide) ?_
    exact kk
  · rw [if_neg q] at kk
    refine lv_iconst (v := 1) hx hb d2 (by decide) ?_
    refine lv_goto (tgt := pc + 8) hx hb d3 (by omega) ?_
    exact kk
set_option maxRecDepth 100000 in
set_option maxHeartbeats 1000000 in
/-- table -/
theorem lc_0 (Y : lwC p m c s args D k a b N xs) (hZ : zSim G) (hH : zH D k a s G H locs) (hi : i + 6 ≤ N) (hl : lwI a b i ls) (kk : ∀ (G2 : Mem) (H : Heap) (locs : List Loc), zSim G2 → zH D k a s G2 H locs → W p l e room_1 s m args below meth c H locs 131 2418 Q (F0 m 769 ls [])) : W p l e room_1 s m args below meth c H locs 131 2418 Q (F0 m 132 ls []) := by
  have X := Y.1
  obtain ⟨hx, hb, hml, hown, hts⟩ := X.1
  obtain ⟨xr, n, hx4, hn, r1, r2, r18, r4⟩ := zSim_n hZ
  obtain ⟨f0, f1, f3, j2, j3, j1, j01⟩ := zSim_cls hZ hx4
  obtain ⟨len, hlen, l1, l2⟩ := hZ.2.2.2.2.2.1
  refine lv_aload_n hx hb dL_law_132 rfl (lv_at hl 2 rfl) ?_
  refine l_rd Y hH hi hl 1 (by decide) (by decide) dL_law_133 dL_law_134 dL_law_135 dL_law_136 dL_law_137 ?_
  refine l_rd Y hH hi hl 2 (by decide) (by decide) dL_law_138 dL_law_139 dL_law_140 dL_law_141 dL_law_142 ?_
  refine l_bo Y dL_law_143 dL_law_146 dL_law_147 dL_law_150 ?_
  refine l_rd Y hH hi hl 3 (by decide) (by decide) dL_law_151 dL_law_152 dL_law_153 dL_law_154 dL_law_155 ?_
  refine z_callVi (i := 6) (q := 0) X hH (c_X5_table l D k a G xr hx4 r1 f0 j2 (xs (i + 1)) (zBo (xs (i + 2))) (xs (i + 3)) (zBo_b _)) k_L_13 (rv_X5 X hH) [] rfl rfl hl.1 (Nat.le_of_ble_eq_true rfl) ⟨Nat.le_of_ble_eq_true rfl, Nat.le_of_ble_eq_true rfl⟩ ⟨Nat.le_of_ble_eq_true rfl, Nat.le_of_ble_eq_true rfl⟩ dL_law_156 (fun t1 G1 H locs h1 hH => ?_)
  obtain ⟨eR1, eG1⟩ := h1
  have eo : ∀ r, 10 ≤ r → r ≠ 17 → G1 r = G r := fun r hr _ => (fun (hr : 7 ≤ r) => show G1 r = G r from by rw [eG1]; exact zAct_o hx4 r1 hr) (by omega)
  obtain ⟨hJ, hok, e10, f15⟩ := zSim_mod (G1 := G1) hZ (fun r h1 h2 => eo r h1 (by omega))
  have e18 : G1 18 = G 18 := eo 18 (by omega) (by omega)
  have eu : G1 18 0 = nI n := by rw [e18]; exact r18
  have hH : zH D k a s (zM G1 0 (G1 10) (G1 18)) H locs := by rw [show zM G1 0 (G1 10) (G1 18) = G1 from zM_id G1 (B := 0) (by omega)]; exact hH
  have hok9 := hok
  obtain ⟨hfl, hky, hgu, h9, ⟨Rm, eRm, hR1, hR2⟩, hbd, h160⟩ := hok
  refine lv_aload_n hx hb dL_law_159 rfl (lv_at hl 1 rfl) ?_
  refine l_rd Y hH hi hl 1 (by decide) (by decide) dL_law_160 dL_law_161 dL_law_162 dL_law_163 dL_law_164 ?_
  refine l_rd Y hH hi hl 2 (by decide) (by decide) dL_law_165 dL_law_166 dL_law_167 dL_law_168 dL_law_169 ?_
  refine l_bo Y dL_law_170 dL_law_173 dL_law_174 dL_law_177 ?_
  refine l_rd Y hH hi hl 3 (by decide) (by decide) dL_law_178 dL_law_179 dL_law_180 dL_law_181 dL_law_182 ?_
  refine z_callVi (i := 6) (q := 8) X hH (c_X6_table l D k a G1 (G1 10) (G1 18) n hn eu hJ h160 hfl (xs (i + 1)) (zBo (xs (i + 2))) (xs (i + 3)) (zBo_b _)) k_L_17 (rv_X6 X hH) [.int t1] rfl rfl hl.1 (Nat.le_of_ble_eq_true rfl) ⟨Nat.le_of_ble_eq_true rfl, Nat.le_of_ble_eq_true rfl⟩ ⟨Nat.le_of_ble_eq_true rfl, Nat.le_of_ble_eq_true rfl⟩ dL_law_183 (fun t2 G2 H locs h2 hH => ?_)
  obtain ⟨eR2, pG2⟩ := h2
  rw [show kTable (G1 10) (xs (i + 1)) (zBo (xs (i + 2))) (xs (i + 3)) = kTable (G 0) (xs (i + 1)) (zBo (xs (i + 2))) (xs (i + 3)) by rw [e10]] at eR2 pG2
  have e12 : t1 = t2 := eR1.trans eR2.symm
  have hS : zSim G2 := zSim_act hZ hx4 hn r1 r2 r4 (kTable_ok hZ.2.1) (by rw [← eG1]; exact pG2)
  refine lv_icmp_eq (tgt := 769) hx hb dL_law_186 (by decide) (fun _ => ?_) (fun q => absurd e12 q)
  exact kk _ _ _ hS hH
set_option maxRecDepth 100000 in
set_option maxHeartbeats 1000000 in
/-- ask -/
theorem lc_1 (Y : lwC p m c s args D k a b N xs) (hZ : zSim G) (hH : zH D k a s G H locs) (hi : i + 6 ≤ N) (hl : lwI a b i ls) (kk : ∀ (G2 : Mem) (H : Heap) (locs : List Loc), zSim G2 → zH D k a s G2 H locs → W p l e room_1 s m args below meth c H locs 131 2418 Q (F0 m 769 ls [])) : W p l e room_1 s m args below meth c H locs 131 2418 Q (F0 m 191 ls []) := by
  have X := Y.1
  obtain ⟨hx, hb, hml, hown, hts⟩ := X.1
  obtain ⟨xr, n, hx4, hn, r1, r2, r18, r4⟩ := zSim_n hZ
  obtain ⟨f0, f1, f3, j2, j3, j1, j01⟩ := zSim_cls hZ hx4
  obtain ⟨len, hlen, l1, l2⟩ := hZ.2.2.2.2.2.1
  refine lv_aload_n hx hb dL_law_191 rfl (lv_at hl 2 rfl) ?_
  refine l_rd Y hH hi hl 1 (by decide) (by decide) dL_law_192 dL_law_193 dL_law_194 dL_law_195 dL_law_196 ?_
  refine l_rd Y hH hi hl 2 (by decide) (by decide) dL_law_197 dL_law_198 dL_law_199 dL_law_200 dL_law_201 ?_
  refine z_callVi (i := 6) (q := 0) X hH (c_X5_ask l D k a G xr hx4 r1 f0 j2 (xs (i + 1)) (xs (i + 2))) k_L_18 (rv_X5 X hH) [] rfl rfl hl.1 (Nat.le_of_ble_eq_true rfl) ⟨Nat.le_of_ble_eq_true rfl, Nat.le_of_ble_eq_true rfl⟩ ⟨Nat.le_of_ble_eq_true rfl, Nat.le_of_ble_eq_true rfl⟩ dL_law_202 (fun t1 G1 H locs h1 hH => ?_)
  obtain ⟨eR1, eG1⟩ := h1
  have eo : ∀ r, 10 ≤ r → r ≠ 17 → G1 r = G r := fun r hr _ => (fun (hr : 7 ≤ r) => show G1 r = G r from by rw [eG1]; exact zAct_o hx4 r1 hr) (by omega)
  obtain ⟨hJ, hok, e10, f15⟩ := zSim_mod (G1 := G1) hZ (fun r h1 h2 => eo r h1 (by omega))
  have e18 : G1 18 = G 18 := eo 18 (by omega) (by omega)
  have eu : G1 18 0 = nI n := by rw [e18]; exact r18
  have hH : zH D k a s (zM G1 0 (G1 10) (G1 18)) H locs := by rw [show zM G1 0 (G1 10) (G1 18) = G1 from zM_id G1 (B := 0) (by omega)]; exact hH
  have hok9 := hok
  obtain ⟨hfl, hky, hgu, h9, ⟨Rm, eRm, hR1, hR2⟩, hbd, h160⟩ := hok
  refine lv_aload_n hx hb dL_law_205 rfl (lv_at hl 1 rfl) ?_
  refine l_rd Y hH hi hl 1 (by decide) (by decide) dL_law_206 dL_law_207 dL_law_208 dL_law_209 dL_law_210 ?_
  refine l_rd Y hH hi hl 2 (by decide) (by decide) dL_law_211 dL_law_212 dL_law_213 dL_law_214 dL_law_215 ?_
  refine z_callVi (i := 6) (q := 8) X hH (c_X6_ask l D k a G1 (G1 10) (G1 18) n hn eu hJ h160 hfl hky Rm eRm hR1 hR2 h9 hgu (xs (i + 1)) (xs (i + 2))) k_L_22 (rv_X6 X hH) [.int t1] rfl rfl hl.1 (Nat.le_of_ble_eq_true rfl) ⟨Nat.le_of_ble_eq_true rfl, Nat.le_of_ble_eq_true rfl⟩ ⟨Nat.le_of_ble_eq_true rfl, Nat.le_of_ble_eq_true rfl⟩ dL_law_216 (fun t2 G2 H locs h2 hH => ?_)
  obtain ⟨eR2, pG2⟩ := h2
  rw [show kAsk (G1 10) (xs (i + 1)) (xs (i + 2)) = kAsk (G 0) (xs (i + 1)) (xs (i + 2)) by rw [e10]] at eR2 pG2
  have e12 : t1 = t2 := eR1.trans eR2.symm
  have hS : zSim G2 := zSim_act hZ hx4 hn r1 r2 r4 (kAsk_ok hZ.2.1) (by rw [← eG1]; exact pG2)
  refine lv_icmp_eq (tgt := 769) hx hb dL_law_219 (by decide) (fun _ => ?_) (fun q => absurd e12 q)
  exact kk _ _ _ hS hH
set_option maxRecDepth 100000 in
set_option maxHeartbeats 1000000 in
/-- askAll -/
theorem lc_2 (Y : lwC p m c s args D k a b N xs) (hZ : zSim G) (hH : zH D k a s G H locs) (hi : i + 6 ≤ N) (hl : lwI a b i ls) (kk : ∀ (G2 : Mem) (H : Heap) (locs : List Loc), zSim G2 → zH D k a s G2 H locs → W p l e room_1 s m args below meth c H locs 131 2418 Q (F0 m 769 ls [])) : W p l e room_1 s m args below meth c H locs 131 2418 Q (F0 m 224 ls []) := by
  have X := Y.1
  obtain ⟨hx, hb, hml, hown, hts⟩ := X.1
  obtain ⟨xr, n, hx4, hn, r1, r2, r18, r4⟩ := zSim_n hZ
  obtain ⟨f0, f1, f3, j2, j3, j1, j01⟩ := zSim_cls hZ hx4
  obtain ⟨len, hlen, l1, l2⟩ := hZ.2.2.2.2.2.1
  refine lv_aload_n hx hb dL_law_224 rfl (lv_at hl 2 rfl) ?_
  refine z_callVi (i := 6) (q := 0) X hH (c_X5_askAll l D k a G xr hx4 r1 f0 j2 len l1 hlen) k_L_23 (rv_X5 X hH) [] rfl rfl hl.1 (Nat.le_of_ble_eq_true rfl) ⟨Nat.le_of_ble_eq_true rfl, Nat.le_of_ble_eq_true rfl⟩ ⟨Nat.le_of_ble_eq_true rfl, Nat.le_of_ble_eq_true rfl⟩ dL_law_225 (fun t1 G1 H locs h1 hH => ?_)
  have eo : ∀ r, 10 ≤ r → r ≠ 17 → G1 r = G r := fun r hr h17 => zAll_o hx4 r1 h1 (by omega) (by omega) (by omega) h17
  obtain ⟨hJ, hok, e10, f15⟩ := zSim_mod (G1 := G1) hZ (fun r h1 h2 => eo r h1 (by omega))
  have e18 : G1 18 = G 18 := eo 18 (by omega) (by omega)
  have eu : G1 18 0 = nI n := by rw [e18]; exact r18
  have hH : zH D k a s (zM G1 0 (G1 10) (G1 18)) H locs := by rw [show zM G1 0 (G1 10) (G1 18) = G1 from zM_id G1 (B := 0) (by omega)]; exact hH
  have hok9 := hok
  obtain ⟨hfl, hky, hgu, h9, ⟨Rm, eRm, hR1, hR2⟩, hbd, h160⟩ := hok
  refine lv_aload_n hx hb dL_law_228 rfl (lv_at hl 1 rfl) ?_
  refine z_callVi (i := 6) (q := 8) X hH (c_X6_askAll l D k a G1 (G1 10) (G1 18) n hn eu hJ h160 len hlen (by rw [e18]; exact l2) hok9) k_L_27 (rv_X6 X hH) [.int t1] rfl rfl hl.1 (Nat.le_of_ble_eq_true rfl) ⟨Nat.le_of_ble_eq_true rfl, Nat.le_of_ble_eq_true rfl⟩ ⟨Nat.le_of_ble_eq_true rfl, Nat.le_of_ble_eq_true rfl⟩ dL_law_229 (fun t2 G2 H locs h2 hH => ?_)
  obtain ⟨eR2, pG2⟩ := h2
  obtain ⟨e1, hS⟩ := zSim_all hZ hx4 hn r1 r2 r4 h1 pG2
  have e12 : t1 = t2 := e1.trans eR2.symm
  refine lv_icmp_eq (tgt := 769) hx hb dL_law_232 (by decide) (fun _ => ?_) (fun q => absurd e12 q)
  exact kk _ _ _ hS hH
set_option maxRecDepth 100000 in
set_option maxHeartbeats 1000000 in
/-- pin -/
theorem lc_3 (Y : lwC p m c s args D k a b N xs) (hZ : zSim G) (hH : zH D k a s G H locs) (hi : i + 6 ≤ N) (hl : lwI a b i ls) (kk : ∀ (G2 : Mem) (H : Heap) (locs : List Loc), zSim G2 → zH D k a s G2 H locs → W p l e room_1 s m args below meth c H locs 131 2418 Q (F0 m 769 ls [])) : W p l e room_1 s m args below meth c H locs 131 2418 Q (F0 m 237 ls []) := by
  have X := Y.1
  obtain ⟨hx, hb, hml, hown, hts⟩ := X.1
  obtain ⟨xr, n, hx4, hn, r1, r2, r18, r4⟩ := zSim_n hZ
  obtain ⟨f0, f1, f3, j2, j3, j1, j01⟩ := zSim_cls hZ hx4
  obtain ⟨len, hlen, l1, l2⟩ := hZ.2.2.2.2.2.1
  refine lv_aload_n hx hb dL_law_237 rfl (lv_at hl 2 rfl) ?_
  refine l_rd Y hH hi hl 1 (by decide) (by decide) dL_law_238 dL_law_239 dL_law_240 dL_law_241 dL_law_242 ?_
  refine l_rd Y hH hi hl 2 (by decide) (by decide) dL_law_243 dL_law_244 dL_law_245 dL_law_246 dL_law_247 ?_
  refine l_bo Y dL_law_248 dL_law_251 dL_law_252 dL_law_255 ?_
  refine z_callVi (i := 6) (q := 0) X hH (c_X5_pin l D k a G xr hx4 r1 f0 j2 (xs (i + 1)) (zBo (xs (i + 2))) (zBo_b _)) k_L_28 (rv_X5 X hH) [] rfl rfl hl.1 (Nat.le_of_ble_eq_true rfl) ⟨Nat.le_of_ble_eq_true rfl, Nat.le_of_ble_eq_true rfl⟩ ⟨Nat.le_of_ble_eq_true rfl, Nat.le_of_ble_eq_true rfl⟩ dL_law_256 (fun t1 G1 H locs h1 hH => ?_)
  obtain ⟨eR1, eG1⟩ := h1
  have eo : ∀ r, 10 ≤ r → r ≠ 17 → G1 r = G r := fun r hr _ => (fun (hr : 7 ≤ r) => show G1 r = G r from by rw [eG1]; exact zAct_o hx4 r1 hr) (by omega)
  obtain ⟨hJ, hok, e10, f15⟩ := zSim_mod (G1 := G1) hZ (fun r h1 h2 => eo r h1 (by omega))
  have e18 : G1 18 = G 18 := eo 18 (by omega) (by omega)
  have eu : G1 18 0 = nI n := by rw [e18]; exact r18
  have hH : zH D k a s (zM G1 0 (G1 10) (G1 18)) H locs := by rw [show zM G1 0 (G1 10) (G1 18) = G1 from zM_id G1 (B := 0) (by omega)]; exact hH
  have hok9 := hok
  obtain ⟨hfl, hky, hgu, h9, ⟨Rm, eRm, hR1, hR2⟩, hbd, h160⟩ := hok
  refine lv_aload_n hx hb dL_law_259 rfl (lv_at hl 1 rfl) ?_
  refine l_rd Y hH hi hl 1 (by decide) (by decide) dL_law_260 dL_law_261 dL_law_262 dL_law_263 dL_law_264 ?_
  refine l_rd Y hH hi hl 2 (by decide) (by decide) dL_law_265 dL_law_266 dL_law_267 dL_law_268 dL_law_269 ?_
  refine l_bo Y dL_law_270 dL_law_273 dL_law_274 dL_law_277 ?_
  refine z_callVi (i := 6) (q := 8) X hH (c_X6_pin l D k a G1 (G1 10) (G1 18) n hn eu hJ h160 hfl (xs (i + 1)) (zBo (xs (i + 2))) (zBo_b _)) k_L_32 (rv_X6 X hH) [.int t1] rfl rfl hl.1 (Nat.le_of_ble_eq_true rfl) ⟨Nat.le_of_ble_eq_true rfl, Nat.le_of_ble_eq_true rfl⟩ ⟨Nat.le_of_ble_eq_true rfl, Nat.le_of_ble_eq_true rfl⟩ dL_law_278 (fun t2 G2 H locs h2 hH => ?_)
  obtain ⟨eR2, pG2⟩ := h2
  rw [show kPin (G1 10) (xs (i + 1)) (zBo (xs (i + 2))) = kPin (G 0) (xs (i + 1)) (zBo (xs (i + 2))) by rw [e10]] at eR2 pG2
  have e12 : t1 = t2 := eR1.trans eR2.symm
  have hS : zSim G2 := zSim_act hZ hx4 hn r1 r2 r4 (kPin_ok (zBo_b _) hZ.2.1) (by rw [← eG1]; exact pG2)
  refine lv_icmp_eq (tgt := 769) hx hb dL_law_281 (by decide) (fun _ => ?_) (fun q => absurd e12 q)
  exact kk _ _ _ hS hH
set_option maxRecDepth 100000 in
set_option maxHeartbeats 1000000 in
/-- throwOut -/
theorem lc_4 (Y : lwC p m c s args D k a b N xs) (hZ : zSim G) (hH : zH D k a s G H locs) (hi : i + 6 ≤ N) (hl : lwI a b i ls) (kk : ∀ (G2 : Mem) (H : Heap) (locs : List Loc), zSim G2 → zH D k a s G2 H locs → W p l e room_1 s m args below meth c H locs 131 2418 Q (F0 m 769 ls [])) : W p l e room_1 s m args below meth c H locs 131 2418 Q (F0 m 286 ls []) := by
  have X := Y.1
  obtain ⟨hx, hb, hml, hown, hts⟩ := X.1
  obtain ⟨xr, n, hx4, hn, r1, r2, r18, r4⟩ := zSim_n hZ
  obtain ⟨f0, f1, f3, j2, j3, j1, j01⟩ := zSim_cls hZ hx4
  obtain ⟨len, hlen, l1, l2⟩ := hZ.2.2.2.2.2.1
  refine lv_aload_n hx hb dL_law_286 rfl (lv_at hl 2 rfl) ?_
  refine l_rd Y hH hi hl 1 (by decide) (by decide) dL_law_287 dL_law_288 dL_law_289 dL_law_290 dL_law_291 ?_
  refine z_callVi (i := 6) (q := 0) X hH (c_X5_throwOut l D k a G xr hx4 r1 f0 j2 (xs (i + 1))) k_L_33 (rv_X5 X hH) [] rfl rfl hl.1 (Nat.le_of_ble_eq_true rfl) ⟨Nat.le_of_ble_eq_true rfl, Nat.le_of_ble_eq_true rfl⟩ ⟨Nat.le_of_ble_eq_true rfl, Nat.le_of_ble_eq_true rfl⟩ dL_law_292 (fun t1 G1 H locs h1 hH => ?_)
  obtain ⟨eR1, eG1⟩ := h1
  have eo : ∀ r, 10 ≤ r → r ≠ 17 → G1 r = G r := fun r hr _ => (fun (hr : 7 ≤ r) => show G1 r = G r from by rw [eG1]; exact zAct_o hx4 r1 hr) (by omega)
  obtain ⟨hJ, hok, e10, f15⟩ := zSim_mod (G1 := G1) hZ (fun r h1 h2 => eo r h1 (by omega))
  have e18 : G1 18 = G 18 := eo 18 (by omega) (by omega)
  have eu : G1 18 0 = nI n := by rw [e18]; exact r18
  have hH : zH D k a s (zM G1 0 (G1 10) (G1 18)) H locs := by rw [show zM G1 0 (G1 10) (G1 18) = G1 from zM_id G1 (B := 0) (by omega)]; exact hH
  have hok9 := hok
  obtain ⟨hfl, hky, hgu, h9, ⟨Rm, eRm, hR1, hR2⟩, hbd, h160⟩ := hok
  refine lv_aload_n hx hb dL_law_295 rfl (lv_at hl 1 rfl) ?_
  refine l_rd Y hH hi hl 1 (by decide) (by decide) dL_law_296 dL_law_297 dL_law_298 dL_law_299 dL_law_300 ?_
  refine z_callVi (i := 6) (q := 8) X hH (c_X6_throwOut l D k a G1 (G1 10) (G1 18) n hn eu hJ h160 hfl (xs (i + 1))) k_L_37 (rv_X6 X hH) [.int t1] rfl rfl hl.1 (Nat.le_of_ble_eq_true rfl) ⟨Nat.le_of_ble_eq_true rfl, Nat.le_of_ble_eq_true rfl⟩ ⟨Nat.le_of_ble_eq_true rfl, Nat.le_of_ble_eq_true rfl⟩ dL_law_301 (fun t2 G2 H locs h2 hH => ?_)
  obtain ⟨eR2, pG2⟩ := h2
  rw [show kThrow (G1 10) (xs (i + 1)) = kThrow (G 0) (xs (i + 1)) by rw [e10]] at eR2 pG2
  have e12 : t1 = t2 := eR1.trans eR2.symm
  have hS : zSim G2 := zSim_act hZ hx4 hn r1 r2 r4 (kThrow_ok hZ.2.1) (by rw [← eG1]; exact pG2)
  refine lv_icmp_eq (tgt := 769) hx hb dL_law_304 (by decide) (fun _ => ?_) (fun q => absurd e12 q)
  exact kk _ _ _ hS hH
set_option maxRecDepth 100000 in
set_option maxHeartbeats 1000000 in
/-- make -/
theorem lc_5 (Y : lwC p m c s args D k a b N xs) (hZ : zSim G) (hH : zH D k a s G H locs) (hi : i + 6 ≤ N) (hl : lwI a b i ls) (kk : ∀ (G2 : Mem) (H : Heap) (locs : List Loc), zSim G2 → zH D k a s G2 H locs → W p l e room_1 s m args below meth c H locs 131 2418 Q (F0 m 769 ls [])) : W p l e room_1 s m args below meth c H locs 131 2418 Q (F0 m 309 ls []) := by
  have X := Y.1
  obtain ⟨hx, hb, hml, hown, hts⟩ := X.1
  obtain ⟨xr, n, hx4, hn, r1, r2, r18, r4⟩ := zSim_n hZ
  obtain ⟨f0, f1, f3, j2, j3, j1, j01⟩ := zSim_cls hZ hx4
  obtain ⟨len, hlen, l1, l2⟩ := hZ.2.2.2.2.2.1
  refine lv_aload_n hx hb dL_law_309 rfl (lv_at hl 2 rfl) ?_
  refine l_rd Y hH hi hl 1 (by decide) (by decide) dL_law_310 dL_law_311 dL_law_312 dL_law_313 dL_law_314 ?_
  refine l_rd Y hH hi hl 2 (by decide) (by decide) dL_law_315 dL_law_316 dL_law_317 dL_law_318 dL_law_319 ?_
  refine l_rd Y hH hi hl 3 (by decide) (by decide) dL_law_320 dL_law_321 dL_law_322 dL_law_323 dL_law_324 ?_
  refine l_rd Y hH hi hl 4 (by decide) (by decide) dL_law_325 dL_law_326 dL_law_327 dL_law_328 dL_law_329 ?_
  refine l_rd Y hH hi hl 5 (by decide) (by decide) dL_law_330 dL_law_331 dL_law_332 dL_law_333 dL_law_334 ?_
  refine z_callVi (i := 6) (q := 0) X hH (c_X5_make l D k a G xr hx4 r1 f0 j2 (xs (i + 1)) (xs (i + 2)) (xs (i + 3)) (xs (i + 4)) (xs (i + 5))) k_L_38 (rv_X5 X hH) [] rfl rfl hl.1 (Nat.le_of_ble_eq_true rfl) ⟨Nat.le_of_ble_eq_true rfl, Nat.le_of_ble_eq_true rfl⟩ ⟨Nat.le_of_ble_eq_true rfl, Nat.le_of_ble_eq_true rfl⟩ dL_law_335 (fun t1 G1 H locs h1 hH => ?_)
  obtain ⟨eR1, eG1⟩ := h1
  have eo : ∀ r, 10 ≤ r → r ≠ 17 → G1 r = G r := fun r hr _ => (fun (hr : 7 ≤ r) => show G1 r = G r from by rw [eG1]; exact zAct_o hx4 r1 hr) (by omega)
  obtain ⟨hJ, hok, e10, f15⟩ := zSim_mod (G1 := G1) hZ (fun r h1 h2 => eo r h1 (by omega))
  have e18 : G1 18 = G 18 := eo 18 (by omega) (by omega)
  have eu : G1 18 0 = nI n := by rw [e18]; exact r18
  have hH : zH D k a s (zM G1 0 (G1 10) (G1 18)) H locs := by rw [show zM G1 0 (G1 10) (G1 18) = G1 from zM_id G1 (B := 0) (by omega)]; exact hH
  have hok9 := hok
  obtain ⟨hfl, hky, hgu, h9, ⟨Rm, eRm, hR1, hR2⟩, hbd, h160⟩ := hok
  refine lv_aload_n hx hb dL_law_338 rfl (lv_at hl 1 rfl) ?_
  refine l_rd Y hH hi hl 1 (by decide) (by decide) dL_law_339 dL_law_340 dL_law_341 dL_law_342 dL_law_343 ?_
  refine l_rd Y hH hi hl 2 (by decide) (by decide) dL_law_344 dL_law_345 dL_law_346 dL_law_347 dL_law_348 ?_
  refine l_rd Y hH hi hl 3 (by decide) (by decide) dL_law_349 dL_law_350 dL_law_351 dL_law_352 dL_law_353 ?_
  refine l_rd Y hH hi hl 4 (by decide) (by decide) dL_law_354 dL_law_355 dL_law_356 dL_law_357 dL_law_358 ?_
  refine l_rd Y hH hi hl 5 (by decide) (by decide) dL_law_359 dL_law_360 dL_law_361 dL_law_362 dL_law_363 ?_
  refine z_callVi (i := 6) (q := 8) X hH (c_X6_make l D k a G1 (G1 10) (G1 18) n hn eu hJ h160 hfl hky Rm eRm hR1 hR2 (xs (i + 1)) (xs (i + 2)) (xs (i + 3)) (xs (i + 4)) (xs (i + 5))) k_L_42 (rv_X6 X hH) [.int t1] rfl rfl hl.1 (Nat.le_of_ble_eq_true rfl) ⟨Nat.le_of_ble_eq_true rfl, Nat.le_of_ble_eq_true rfl⟩ ⟨Nat.le_of_ble_eq_true rfl, Nat.le_of_ble_eq_true rfl⟩ dL_law_364 (fun t2 G2 H locs h2 hH => ?_)
  obtain ⟨eR2, pG2⟩ := h2
  rw [show kMake (G1 10) (xs (i + 1)) (xs (i + 2)) (xs (i + 3)) (xs (i + 4)) (xs (i + 5)) = kMake (G 0) (xs (i + 1)) (xs (i + 2)) (xs (i + 3)) (xs (i + 4)) (xs (i + 5)) by rw [e10]] at eR2 pG2
  have e12 : t1 = t2 := eR1.trans eR2.symm
  have hS : zSim G2 := zSim_act hZ hx4 hn r1 r2 r4 (kMake_ok hZ.2.1) (by rw [← eG1]; exact pG2)
  refine lv_icmp_eq (tgt := 769) hx hb dL_law_367 (by decide) (fun _ => ?_) (fun q => absurd e12 q)
  exact kk _ _ _ hS hH
set_option maxRecDepth 100000 in
set_option maxHeartbeats 1000000 in
/-- set -/
theorem lc_6 (Y : lwC p m c s args D k a b N xs) (hZ : zSim G) (hH : zH D k a s G H locs) (hi : i + 6 ≤ N) (hl : lwI a b i ls) (kk : ∀ (G2 : Mem) (H : Heap) (locs : List Loc), zSim G2 → zH D k a s G2 H locs → W p l e room_1 s m args below meth c H locs 131 2418 Q (F0 m 769 ls [])) : W p l e room_1 s m args below meth c H locs 131 2418 Q (F0 m 372 ls []) := by
  have X := Y.1
  obtain ⟨hx, hb, hml, hown, hts⟩ := X.1
  obtain ⟨xr, n, hx4, hn, r1, r2, r18, r4⟩ := zSim_n hZ
  obtain ⟨f0, f1, f3, j2, j3, j1, j01⟩ := zSim_cls hZ hx4
  obtain ⟨len, hlen, l1, l2⟩ := hZ.2.2.2.2.2.1
  refine lv_aload_n hx hb dL_law_372 rfl (lv_at hl 2 rfl) ?_
  refine l_rd Y hH hi hl 1 (by decide) (by decide) dL_law_373 dL_law_374 dL_law_375 dL_law_376 dL_law_377 ?_
  refine l_rd Y hH hi hl 2 (by decide) (by decide) dL_law_378 dL_law_379 dL_law_380 dL_law_381 dL_law_382 ?_
  refine z_callVi (i := 6) (q := 0) X hH (c_X5_set l D k a G xr hx4 r1 f0 j2 (xs (i + 1)) (xs (i + 2))) k_L_43 (rv_X5 X hH) [] rfl rfl hl.1 (Nat.le_of_ble_eq_true rfl) ⟨Nat.le_of_ble_eq_true rfl, Nat.le_of_ble_eq_true rfl⟩ ⟨Nat.le_of_ble_eq_true rfl, Nat.le_of_ble_eq_true rfl⟩ dL_law_383 (fun t1 G1 H locs h1 hH => ?_)
  obtain ⟨eR1, eG1⟩ := h1
  have eo : ∀ r, 10 ≤ r → r ≠ 17 → G1 r = G r := fun r hr _ => (fun (hr : 7 ≤ r) => show G1 r = G r from by rw [eG1]; exact zAct_o hx4 r1 hr) (by omega)
  obtain ⟨hJ, hok, e10, f15⟩ := zSim_mod (G1 := G1) hZ (fun r h1 h2 => eo r h1 (by omega))
  have e18 : G1 18 = G 18 := eo 18 (by omega) (by omega)
  have eu : G1 18 0 = nI n := by rw [e18]; exact r18
  have hH : zH D k a s (zM G1 0 (G1 10) (G1 18)) H locs := by rw [show zM G1 0 (G1 10) (G1 18) = G1 from zM_id G1 (B := 0) (by omega)]; exact hH
  have hok9 := hok
  obtain ⟨hfl, hky, hgu, h9, ⟨Rm, eRm, hR1, hR2⟩, hbd, h160⟩ := hok
  refine lv_aload_n hx hb dL_law_386 rfl (lv_at hl 1 rfl) ?_
  refine l_rd Y hH hi hl 1 (by decide) (by decide) dL_law_387 dL_law_388 dL_law_389 dL_law_390 dL_law_391 ?_
  refine l_rd Y hH hi hl 2 (by decide) (by decide) dL_law_392 dL_law_393 dL_law_394 dL_law_395 dL_law_396 ?_
  refine z_callVi (i := 6) (q := 8) X hH (c_X6_set l D k a G1 (G1 10) (G1 18) n hn eu hJ h160 hfl (xs (i + 1)) (xs (i + 2))) k_L_46 (rv_X6 X hH) [.int t1] rfl rfl hl.1 (Nat.le_of_ble_eq_true rfl) ⟨Nat.le_of_ble_eq_true rfl, Nat.le_of_ble_eq_true rfl⟩ ⟨Nat.le_of_ble_eq_true rfl, Nat.le_of_ble_eq_true rfl⟩ dL_law_397 (fun t2 G2 H locs h2 hH => ?_)
  obtain ⟨eR2, pG2⟩ := h2
  rw [show kSet (G1 10) (xs (i + 1)) (xs (i + 2)) = kSet (G 0) (xs (i + 1)) (xs (i + 2)) by rw [e10]] at eR2 pG2
  have e12 : t1 = t2 := eR1.trans eR2.symm
  have hS : zSim G2 := zSim_act hZ hx4 hn r1 r2 r4 (kSet_ok hZ.2.1) (by rw [← eG1]; exact pG2)
  refine lv_icmp_eq (tgt := 769) hx hb dL_law_400 (by decide) (fun _ => ?_) (fun q => absurd e12 q)
  exact kk _ _ _ hS hH
set_option maxRecDepth 100000 in
set_option maxHeartbeats 1000000 in
/-- type -/
theorem lc_7 (Y : lwC p m c s args D k a b N xs) (hZ : zSim G) (hH : zH D k a s G H locs) (hi : i + 6 ≤ N) (hl : lwI a b i ls) (kk : ∀ (G2 : Mem) (H : Heap) (locs : List Loc), zSim G2 → zH D k a s G2 H locs → W p l e room_1 s m args below meth c H locs 131 2418 Q (F0 m 769 ls [])) : W p l e room_1 s m args below meth c H locs 131 2418 Q (F0 m 405 ls []) := by
  have X := Y.1
  obtain ⟨hx, hb, hml, hown, hts⟩ := X.1
  obtain ⟨xr, n, hx4, hn, r1, r2, r18, r4⟩ := zSim_n hZ
  obtain ⟨f0, f1, f3, j2, j3, j1, j01⟩ := zSim_cls hZ hx4
  obtain ⟨len, hlen, l1, l2⟩ := hZ.2.2.2.2.2.1
  refine lv_aload_n hx hb dL_law_405 rfl (lv_at hl 2 rfl) ?_
  refine l_rd Y hH hi hl 1 (by decide) (by decide) dL_law_406 dL_law_407 dL_law_408 dL_law_409 dL_law_410 ?_
  refine lv_i2c (v := zChr (xs (i + 1))) hx hb dL_law_411 rfl ?_
  refine z_callVi (i := 6) (q := 0) X hH (c_X5_type l D k a G len hlen l1 (zChr (xs (i + 1))) (zChr_n _)) k_L_47 (rv_X5 X hH) [] rfl rfl hl.1 (Nat.le_of_ble_eq_true rfl) ⟨Nat.le_of_ble_eq_true rfl, Nat.le_of_ble_eq_true rfl⟩ ⟨Nat.le_of_ble_eq_true rfl, Nat.le_of_ble_eq_true rfl⟩ dL_law_412 (fun t1 G1 H locs h1 hH => ?_)
  obtain ⟨eR1, eG1⟩ := h1
  have e18 : G1 18 = G 18 := by rw [eG1]; exact kTypeG_o (by omega) (by omega)
  refine lv_aload_n hx hb dL_law_415 rfl (lv_at hl 1 rfl) ?_
  refine l_rd Y hH hi hl 1 (by decide) (by decide) dL_law_416 dL_law_417 dL_law_418 dL_law_419 dL_law_420 ?_
  refine lv_i2c (v := zChr (xs (i + 1))) hx hb dL_law_421 rfl ?_
  refine z_callVi (i := 6) (q := 8) X hH (c_X6_type l D k a G1 len hlen (by rw [e18]; exact l2) (zChr (xs (i + 1))) (zChr_n _)) k_L_51 (rv_X6 X hH) [.int t1] rfl rfl hl.1 (Nat.le_of_ble_eq_true rfl) ⟨Nat.le_of_ble_eq_true rfl, Nat.le_of_ble_eq_true rfl⟩ ⟨Nat.le_of_ble_eq_true rfl, Nat.le_of_ble_eq_true rfl⟩ dL_law_422 (fun t2 G2 H locs h2 hH => ?_)
  obtain ⟨eR2, pG2⟩ := h2
  obtain ⟨e1, hS⟩ := zSim_type hZ hlen l1 l2 eG1 pG2
  have e12 : t1 = t2 := (eR1.trans e1).trans eR2.symm
  refine lv_icmp_eq (tgt := 769) hx hb dL_law_425 (by decide) (fun _ => ?_) (fun q => absurd e12 q)
  exact kk _ _ _ hS hH
set_option maxRecDepth 100000 in
set_option maxHeartbeats 1000000 in
/-- clearText -/
theorem lc_8 (Y : lwC p m c s args D k a b N xs) (hZ : zSim G) (hH : zH D k a s G H locs) (hi : i + 6 ≤ N) (hl : lwI a b i ls) (kk : ∀ (G2 : Mem) (H : Heap) (locs : List Loc), zSim G2 → zH D k a s G2 H locs → W p l e room_1 s m args below meth c H locs 131 2418 Q (F0 m 769 ls [])) : W p l e room_1 s m args below meth c H locs 131 2418 Q (F0 m 430 ls []) := by
  have X := Y.1
  obtain ⟨hx, hb, hml, hown, hts⟩ := X.1
  obtain ⟨xr, n, hx4, hn, r1, r2, r18, r4⟩ := zSim_n hZ
  obtain ⟨f0, f1, f3, j2, j3, j1, j01⟩ := zSim_cls hZ hx4
  obtain ⟨len, hlen, l1, l2⟩ := hZ.2.2.2.2.2.1
  refine lv_aload_n hx hb dL_law_430 rfl (lv_at hl 2 rfl) ?_
  refine z_callVi (i := 6) (q := 0) X hH (c_X5_clearText l D k a G) k_L_52 (rv_X5 X hH) [] rfl rfl hl.1 (Nat.le_of_ble_eq_true rfl) ⟨Nat.le_of_ble_eq_true rfl, Nat.le_of_ble_eq_true rfl⟩ ⟨Nat.le_of_ble_eq_true rfl, Nat.le_of_ble_eq_true rfl⟩ dL_law_431 (fun t1 G1 H locs h1 hH => ?_)
  obtain ⟨eR1, eG1⟩ := h1
  refine lv_aload_n hx hb dL_law_434 rfl (lv_at hl 1 rfl) ?_
  refine z_callVi (i := 6) (q := 8) X hH (c_X6_clearText l D k a G1) k_L_55 (rv_X6 X hH) [.int t1] rfl rfl hl.1 (Nat.le_of_ble_eq_true rfl) ⟨Nat.le_of_ble_eq_true rfl, Nat.le_of_ble_eq_true rfl⟩ ⟨Nat.le_of_ble_eq_true rfl, Nat.le_of_ble_eq_true rfl⟩ dL_law_435 (fun t2 G2 H locs h2 hH => ?_)
  obtain ⟨eR2, pG2⟩ := h2
  obtain ⟨e1, hS⟩ := zSim_clear hZ eG1 pG2
  have e12 : t1 = t2 := (eR1.trans e1).trans eR2.symm
  refine lv_icmp_eq (tgt := 769) hx hb dL_law_438 (by decide) (fun _ => ?_) (fun q => absurd e12 q)
  exact kk _ _ _ hS hH
set_option maxRecDepth 100000 in
set_option maxHeartbeats 1000000 in
/-- undo -/
theorem lc_9 (Y : lwC p m c s args D k a b N xs) (hZ : zSim G) (hH : zH D k a s G H locs) (hi : i + 6 ≤ N) (hl : lwI a b i ls) (kk : ∀ (G2 : Mem) (H : Heap) (locs : List Loc), zSim G2 → zH D k a s G2 H locs → W p l e room_1 s m args below meth c H locs 131 2418 Q (F0 m 769 ls [])) : W p l e room_1 s m args below meth c H locs 131 2418 Q (F0 m 443 ls []) := by
  have X := Y.1
  obtain ⟨hx, hb, hml, hown, hts⟩ := X.1
  obtain ⟨xr, n, hx4, hn, r1, r2, r18, r4⟩ := zSim_n hZ
  obtain ⟨f0, f1, f3, j2, j3, j1, j01⟩ := zSim_cls hZ hx4
  obtain ⟨len, hlen, l1, l2⟩ := hZ.2.2.2.2.2.1
  refine lv_aload_n hx hb dL_law_443 rfl (lv_at hl 2 rfl) ?_
  refine z_callVi (i := 6) (q := 0) X hH (c_X5_undo l D k a G xr hx4 r1 f3 j3) k_L_56 (rv_X5 X hH) [] rfl rfl hl.1 (Nat.le_of_ble_eq_true rfl) ⟨Nat.le_of_ble_eq_true rfl, Nat.le_of_ble_eq_true rfl⟩ ⟨Nat.le_of_ble_eq_true rfl, Nat.le_of_ble_eq_true rfl⟩ dL_law_444 (fun t1 G1 H locs h1 hH => ?_)
  obtain ⟨eR1, eG1⟩ := h1
  have eo : ∀ r, 10 ≤ r → r ≠ 17 → G1 r = G r := fun r hr _ => (fun (hr : 7 ≤ r) => show G1 r = G r from by rw [eG1]; exact kUndoG_o hr) (by omega)
  obtain ⟨hJ, hok, e10, f15⟩ := zSim_mod (G1 := G1) hZ (fun r h1 h2 => eo r h1 (by omega))
  have e18 : G1 18 = G 18 := eo 18 (by omega) (by omega)
  have eu : G1 18 0 = nI n := by rw [e18]; exact r18
  have hH : zH D k a s (zM G1 0 (G1 10) (G1 18)) H locs := by rw [show zM G1 0 (G1 10) (G1 18) = G1 from zM_id G1 (B := 0) (by omega)]; exact hH
  have hok9 := hok
  obtain ⟨hfl, hky, hgu, h9, ⟨Rm, eRm, hR1, hR2⟩, hbd, h160⟩ := hok
  refine lv_aload_n hx hb dL_law_447 rfl (lv_at hl 1 rfl) ?_
  refine z_callVi (i := 6) (q := 8) X hH (c_X6_undo l D k a G1 (G1 10) (G1 18) n hn eu hJ h160) k_L_59 (rv_X6 X hH) [.int t1] rfl rfl hl.1 (Nat.le_of_ble_eq_true rfl) ⟨Nat.le_of_ble_eq_true rfl, Nat.le_of_ble_eq_true rfl⟩ ⟨Nat.le_of_ble_eq_true rfl, Nat.le_of_ble_eq_true rfl⟩ dL_law_448 (fun t2 G2 H locs h2 hH => ?_)
  obtain ⟨eR2, pG2⟩ := h2
  obtain ⟨e1, hS⟩ := zSim_undo hZ hx4 hn r1 r2 r4 eG1 pG2
  have e12 : t1 = t2 := (eR1.trans e1).trans eR2.symm
  refine lv_icmp_eq (tgt := 769) hx hb dL_law_451 (by decide) (fun _ => ?_) (fun q => absurd e12 q)
  exact kk _ _ _ hS hH
set_option maxRecDepth 100000 in
set_option maxHeartbeats 1000000 in
/-- keep -/
theorem lc_10 (Y : lwC p m c s args D k a b N xs) (hZ : zSim G) (hH : zH D k a s G H locs) (hi : i + 6 ≤ N) (hl : lwI a b i ls) (kk : ∀ (G2 : Mem) (H : Heap) (locs : List Loc), zSim G2 → zH D k a s G2 H locs → W p l e room_1 s m args below meth c H locs 131 2418 Q (F0 m 769 ls [])) : W p l e room_1 s m args below meth c H locs 131 2418 Q (F0 m 456 ls []) := by
  have X := Y.1
  obtain ⟨hx, hb, hml, hown, hts⟩ := X.1
  obtain ⟨xr, n, hx4, hn, r1, r2, r18, r4⟩ := zSim_n hZ
  obtain ⟨f0, f1, f3, j2, j3, j1, j01⟩ := zSim_cls hZ hx4
  obtain ⟨len, hlen, l1, l2⟩ := hZ.2.2.2.2.2.1
  refine lv_aload_n hx hb dL_law_456 rfl (lv_at hl 2 rfl) ?_
  refine z_callVi (i := 6) (q := 0) X hH (c_X5_keep l D k a G f0 j1) k_L_60 (rv_X5 X hH) [] rfl rfl hl.1 (Nat.le_of_ble_eq_true rfl) ⟨Nat.le_of_ble_eq_true rfl, Nat.le_of_ble_eq_true rfl⟩ ⟨Nat.le_of_ble_eq_true rfl, Nat.le_of_ble_eq_true rfl⟩ dL_law_457 (fun t1 G1 H locs h1 hH => ?_)
  obtain ⟨eR1, eG1⟩ := h1
  have eo : ∀ r, 10 ≤ r → r ≠ 17 → G1 r = G r := fun r hr _ => (fun (hr : 7 ≤ r) => show G1 r = G r from by rw [eG1]; exact kKeepG_o hr) (by omega)
  obtain ⟨hJ, hok, e10, f15⟩ := zSim_mod (G1 := G1) hZ (fun r h1 h2 => eo r h1 (by omega))
  have e18 : G1 18 = G 18 := eo 18 (by omega) (by omega)
  have eu : G1 18 0 = nI n := by rw [e18]; exact r18
  have hH : zH D k a s (zM G1 0 (G1 10) (G1 18)) H locs := by rw [show zM G1 0 (G1 10) (G1 18) = G1 from zM_id G1 (B := 0) (by omega)]; exact hH
  have hok9 := hok
  obtain ⟨hfl, hky, hgu, h9, ⟨Rm, eRm, hR1, hR2⟩, hbd, h160⟩ := hok
  refine lv_aload_n hx hb dL_law_460 rfl (lv_at hl 1 rfl) ?_
  refine z_callVi (i := 6) (q := 8) X hH (c_X6_keep l D k a G1 (G1 10) (G1 18) n hn eu hJ h160 hfl) k_L_63 (rv_X6 X hH) [.int t1] rfl rfl hl.1 (Nat.le_of_ble_eq_true rfl) ⟨Nat.le_of_ble_eq_true rfl, Nat.le_of_ble_eq_true rfl⟩ ⟨Nat.le_of_ble_eq_true rfl, Nat.le_of_ble_eq_true rfl⟩ dL_law_461 (fun t2 G2 H locs h2 hH => ?_)
  obtain ⟨eR2, pG2⟩ := h2
  obtain ⟨e1, hS⟩ := zSim_keep hZ eG1 pG2
  have e12 : t1 = t2 := (eR1.trans e1).trans eR2.symm
  refine lv_icmp_eq (tgt := 769) hx hb dL_law_464 (by decide) (fun _ => ?_) (fun q => absurd e12 q)
  exact kk _ _ _ hS hH
set_option maxRecDepth 100000 in
set_option maxHeartbeats 1000000 in
/-- restore -/
theorem lc_11 (Y : lwC p m c s args D k a b N xs) (hZ : zSim G) (hH : zH D k a s G H locs) (hi : i + 6 ≤ N) (hl : lwI a b i ls) (kk : ∀ (G2 : Mem) (H : Heap) (locs : List Loc), zSim G2 → zH D k a s G2 H locs → W p l e room_1 s m args below meth c H locs 131 2418 Q (F0 m 769 ls [])) : W p l e room_1 s m args below meth c H locs 131 2418 Q (F0 m 469 ls []) := by
  have X := Y.1
  obtain ⟨hx, hb, hml, hown, hts⟩ := X.1
  obtain ⟨xr, n, hx4, hn, r1, r2, r18, r4⟩ := zSim_n hZ
  obtain ⟨f0, f1, f3, j2, j3, j1, j01⟩ := zSim_cls hZ hx4
  obtain ⟨len, hlen, l1, l2⟩ := hZ.2.2.2.2.2.1
  refine lv_aload_n hx hb dL_law_469 rfl (lv_at hl 2 rfl) ?_
  refine z_callVi (i := 6) (q := 0) X hH (c_X5_restore l D k a G xr hx4 r1 f0 j2 f1 j01) k_L_64 (rv_X5 X hH) [] rfl rfl hl.1 (Nat.le_of_ble_eq_true rfl) ⟨Nat.le_of_ble_eq_true rfl, Nat.le_of_ble_eq_true rfl⟩ ⟨Nat.le_of_ble_eq_true rfl, Nat.le_of_ble_eq_true rfl⟩ dL_law_470 (fun t1 G1 H locs h1 hH => ?_)
  obtain ⟨eR1, eG1⟩ := h1
  have eo : ∀ r, 10 ≤ r → r ≠ 17 → G1 r = G r := fun r hr _ => (fun (hr : 7 ≤ r) => show G1 r = G r from by rw [eG1]; exact kRestG_o hx4 r1 hr) (by omega)
  obtain ⟨hJ, hok, e10, f15⟩ := zSim_mod (G1 := G1) hZ (fun r h1 h2 => eo r h1 (by omega))
  have e18 : G1 18 = G 18 := eo 18 (by omega) (by omega)
  have eu : G1 18 0 = nI n := by rw [e18]; exact r18
  have hH : zH D k a s (zM G1 0 (G1 10) (G1 18)) H locs := by rw [show zM G1 0 (G1 10) (G1 18) = G1 from zM_id G1 (B := 0) (by omega)]; exact hH
  have hok9 := hok
  obtain ⟨hfl, hky, hgu, h9, ⟨Rm, eRm, hR1, hR2⟩, hbd, h160⟩ := hok
  refine lv_aload_n hx hb dL_law_473 rfl (lv_at hl 1 rfl) ?_
  refine z_callVi (i := 6) (q := 8) X hH (c_X6_restore l D k a G1 (G1 10) (G1 18) n hn eu hJ h160 f15) k_L_67 (rv_X6 X hH) [.int t1] rfl rfl hl.1 (Nat.le_of_ble_eq_true rfl) ⟨Nat.le_of_ble_eq_true rfl, Nat.le_of_ble_eq_true rfl⟩ ⟨Nat.le_of_ble_eq_true rfl, Nat.le_of_ble_eq_true rfl⟩ dL_law_474 (fun t2 G2 H locs h2 hH => ?_)
  obtain ⟨eR2, pG2⟩ := h2
  obtain ⟨e1, hS⟩ := zSim_rest hZ hx4 hn r1 r2 r4 eG1 pG2
  have e12 : t1 = t2 := (eR1.trans e1).trans eR2.symm
  refine lv_icmp_eq (tgt := 769) hx hb dL_law_477 (by decide) (fun _ => ?_) (fun q => absurd e12 q)
  exact kk _ _ _ hS hH
set_option maxRecDepth 100000 in
set_option maxHeartbeats 1000000 in
/-- cost -/
theorem lc_12 (Y : lwC p m c s args D k a b N xs) (hZ : zSim G) (hH : zH D k a s G H locs) (hi : i + 6 ≤ N) (hl : lwI a b i ls) (kk : ∀ (G2 : Mem) (H : Heap) (locs : List Loc), zSim G2 → zH D k a s G2 H locs → W p l e room_1 s m args below meth c H locs 131 2418 Q (F0 m 769 ls [])) : W p l e room_1 s m args below meth c H locs 131 2418 Q (F0 m 482 ls []) := by
  have X := Y.1
  obtain ⟨hx, hb, hml, hown, hts⟩ := X.1
  obtain ⟨xr, n, hx4, hn, r1, r2, r18, r4⟩ := zSim_n hZ
  obtain ⟨f0, f1, f3, j2, j3, j1, j01⟩ := zSim_cls hZ hx4
  obtain ⟨len, hlen, l1, l2⟩ := hZ.2.2.2.2.2.1
  refine lv_aload_n hx hb dL_law_482 rfl (lv_at hl 2 rfl) ?_
  refine l_rd Y hH hi hl 1 (by decide) (by decide) dL_law_483 dL_law_484 dL_law_485 dL_law_486 dL_law_487 ?_
  refine l_rd Y hH hi hl 2 (by decide) (by decide) dL_law_488 dL_law_489 dL_law_490 dL_law_491 dL_law_492 ?_
  refine l_rd Y hH hi hl 3 (by decide) (by decide) dL_law_493 dL_law_494 dL_law_495 dL_law_496 dL_law_497 ?_
  refine z_callVi (i := 6) (q := 0) X hH (c_X5_cost l D k a G (xs (i + 1)) (xs (i + 2)) (xs (i + 3))) k_L_68 (rv_X5 X hH) [] rfl rfl hl.1 (Nat.le_of_ble_eq_true rfl) ⟨Nat.le_of_ble_eq_true rfl, Nat.le_of_ble_eq_true rfl⟩ ⟨Nat.le_of_ble_eq_true rfl, Nat.le_of_ble_eq_true rfl⟩ dL_law_498 (fun t1 G1 H locs h1 hH => ?_)
  obtain ⟨eR1, eG1⟩ := h1
  rw [eG1] at hH
  obtain ⟨hJ, hok, e10, f15⟩ := zSim_mod (G1 := G) hZ (fun r _ _ => rfl)
  have hH : zH D k a s (zM G 0 (G 10) (G 18)) H locs := by rw [show zM G 0 (G 10) (G 18) = G from zM_id G (B := 0) (by omega)]; exact hH
  obtain ⟨hfl, hky, hgu, h9, ⟨Rm, eRm, hR1, hR2⟩, hbd, h160⟩ := hok
  refine lv_aload_n hx hb dL_law_501 rfl (lv_at hl 1 rfl) ?_
  refine l_rd Y hH hi hl 1 (by decide) (by decide) dL_law_502 dL_law_503 dL_law_504 dL_law_505 dL_law_506 ?_
  refine l_rd Y hH hi hl 2 (by decide) (by decide) dL_law_507 dL_law_508 dL_law_509 dL_law_510 dL_law_511 ?_
  refine l_rd Y hH hi hl 3 (by decide) (by decide) dL_law_512 dL_law_513 dL_law_514 dL_law_515 dL_law_516 ?_
  refine z_callVi (i := 6) (q := 8) X hH (c_X6_cost l D k a G (G 10) (G 18) hky (xs (i + 1)) (xs (i + 2)) (xs (i + 3))) k_L_72 (rv_X6 X hH) [.int t1] rfl rfl hl.1 (Nat.le_of_ble_eq_true rfl) ⟨Nat.le_of_ble_eq_true rfl, Nat.le_of_ble_eq_true rfl⟩ ⟨Nat.le_of_ble_eq_true rfl, Nat.le_of_ble_eq_true rfl⟩ dL_law_517 (fun t2 G2 H locs h2 hH => ?_)
  obtain ⟨eR2, pG2⟩ := h2
  have e12 : t1 = t2 := by rw [eR1, eR2, hZ.1]
  have hS : zSim G2 := by rw [pG2, show zM G 0 (G 10) (G 18) = G from zM_id G (B := 0) (by omega)]; exact hZ
  refine lv_icmp_eq (tgt := 769) hx hb dL_law_520 (by decide) (fun _ => ?_) (fun q => absurd e12 q)
  exact kk _ _ _ hS hH
set_option maxRecDepth 100000 in
set_option maxHeartbeats 1000000 in
/-- cheapest -/
theorem lc_13 (Y : lwC p m c s args D k a b N xs) (hZ : zSim G) (hH : zH D k a s G H locs) (hi : i + 6 ≤ N) (hl : lwI a b i ls) (kk : ∀ (G2 : Mem) (H : Heap) (locs : List Loc), zSim G2 → zH D k a s G2 H locs → W p l e room_1 s m args below meth c H locs 131 2418 Q (F0 m 769 ls [])) : W p l e room_1 s m args below meth c H locs 131 2418 Q (F0 m 525 ls []) := by
  have X := Y.1
  obtain ⟨hx, hb, hml, hown, hts⟩ := X.1
  obtain ⟨xr, n, hx4, hn, r1, r2, r18, r4⟩ := zSim_n hZ
  obtain ⟨f0, f1, f3, j2, j3, j1, j01⟩ := zSim_cls hZ hx4
  obtain ⟨len, hlen, l1, l2⟩ := hZ.2.2.2.2.2.1
  refine lv_aload_n hx hb dL_law_525 rfl (lv_at hl 2 rfl) ?_
  refine l_rd Y hH hi hl 1 (by decide) (by decide) dL_law_526 dL_law_527 dL_law_528 dL_law_529 dL_law_530 ?_
  refine l_rd Y hH hi hl 2 (by decide) (by decide) dL_law_531 dL_law_532 dL_law_533 dL_law_534 dL_law_535 ?_
  refine z_callVi (i := 6) (q := 0) X hH (c_X5_cheapest l D k a G (xs (i + 1)) (xs (i + 2))) k_L_73 (rv_X5 X hH) [] rfl rfl hl.1 (Nat.le_of_ble_eq_true rfl) ⟨Nat.le_of_ble_eq_true rfl, Nat.le_of_ble_eq_true rfl⟩ ⟨Nat.le_of_ble_eq_true rfl, Nat.le_of_ble_eq_true rfl⟩ dL_law_536 (fun t1 G1 H locs h1 hH => ?_)
  obtain ⟨eR1, eG1⟩ := h1
  rw [eG1] at hH
  obtain ⟨hJ, hok, e10, f15⟩ := zSim_mod (G1 := G) hZ (fun r _ _ => rfl)
  have hH : zH D k a s (zM G 0 (G 10) (G 18)) H locs := by rw [show zM G 0 (G 10) (G 18) = G from zM_id G (B := 0) (by omega)]; exact hH
  obtain ⟨hfl, hky, hgu, h9, ⟨Rm, eRm, hR1, hR2⟩, hbd, h160⟩ := hok
  refine lv_aload_n hx hb dL_law_539 rfl (lv_at hl 1 rfl) ?_
  refine l_rd Y hH hi hl 1 (by decide) (by decide) dL_law_540 dL_law_541 dL_law_542 dL_law_543 dL_law_544 ?_
  refine l_rd Y hH hi hl 2 (by decide) (by decide) dL_law_545 dL_law_546 dL_law_547 dL_law_548 dL_law_549 ?_
  refine z_callVi (i := 6) (q := 8) X hH (c_X6_cheapest l D k a G (G 10) (G 18) hky (xs (i + 1)) (xs (i + 2))) k_L_76 (rv_X6 X hH) [.int t1] rfl rfl hl.1 (Nat.le_of_ble_eq_true rfl) ⟨Nat.le_of_ble_eq_true rfl, Nat.le_of_ble_eq_true rfl⟩ ⟨Nat.le_of_ble_eq_true rfl, Nat.le_of_ble_eq_true rfl⟩ dL_law_550 (fun t2 G2 H locs h2 hH => ?_)
  obtain ⟨eR2, pG2⟩ := h2
  have e12 : t1 = t2 := by rw [eR1, eR2, hZ.1]
  have hS : zSim G2 := by rw [pG2, show zM G 0 (G 10) (G 18) = G from zM_id G (B := 0) (by omega)]; exact hZ
  refine lv_icmp_eq (tgt := 769) hx hb dL_law_553 (by decide) (fun _ => ?_) (fun q => absurd e12 q)
  exact kk _ _ _ hS hH
set_option maxRecDepth 100000 in
set_option maxHeartbeats 1000000 in
/-- plan -/
theorem lc_14 (Y : lwC p m c s args D k a b N xs) (hZ : zSim G) (hH : zH D k a s G H locs) (hi : i + 6 ≤ N) (hl : lwI a b i ls) (kk : ∀ (G2 : Mem) (H : Heap) (locs : List Loc), zSim G2 → zH D k a s G2 H locs → W p l e room_1 s m args below meth c H locs 131 2418 Q (F0 m 769 ls [])) : W p l e room_1 s m args below meth c H locs 131 2418 Q (F0 m 558 ls []) := by
  have X := Y.1
  obtain ⟨hx, hb, hml, hown, hts⟩ := X.1
  obtain ⟨xr, n, hx4, hn, r1, r2, r18, r4⟩ := zSim_n hZ
  obtain ⟨f0, f1, f3, j2, j3, j1, j01⟩ := zSim_cls hZ hx4
  obtain ⟨len, hlen, l1, l2⟩ := hZ.2.2.2.2.2.1
  refine lv_aload_n hx hb dL_law_558 rfl (lv_at hl 2 rfl) ?_
  refine l_rd Y hH hi hl 1 (by decide) (by decide) dL_law_559 dL_law_560 dL_law_561 dL_law_562 dL_law_563 ?_
  refine l_rd Y hH hi hl 2 (by decide) (by decide) dL_law_564 dL_law_565 dL_law_566 dL_law_567 dL_law_568 ?_
  refine z_callVi (i := 6) (q := 0) X hH (c_X5_plan l D k a G f0 (xs (i + 1)) (xs (i + 2))) k_L_77 (rv_X5 X hH) [] rfl rfl hl.1 (Nat.le_of_ble_eq_true rfl) ⟨Nat.le_of_ble_eq_true rfl, Nat.le_of_ble_eq_true rfl⟩ ⟨Nat.le_of_ble_eq_true rfl, Nat.le_of_ble_eq_true rfl⟩ dL_law_569 (fun t1 G1 H locs h1 hH => ?_)
  obtain ⟨eR1, eG1⟩ := h1
  rw [eG1] at hH
  obtain ⟨hJ, hok, e10, f15⟩ := zSim_mod (G1 := G) hZ (fun r _ _ => rfl)
  have hH : zH D k a s (zM G 0 (G 10) (G 18)) H locs := by rw [show zM G 0 (G 10) (G 18) = G from zM_id G (B := 0) (by omega)]; exact hH
  obtain ⟨hfl, hky, hgu, h9, ⟨Rm, eRm, hR1, hR2⟩, hbd, h160⟩ := hok
  refine lv_aload_n hx hb dL_law_572 rfl (lv_at hl 1 rfl) ?_
  refine l_rd Y hH hi hl 1 (by decide) (by decide) dL_law_573 dL_law_574 dL_law_575 dL_law_576 dL_law_577 ?_
  refine l_rd Y hH hi hl 2 (by decide) (by decide) dL_law_578 dL_law_579 dL_law_580 dL_law_581 dL_law_582 ?_
  refine z_callVi (i := 6) (q := 8) X hH (c_X6_plan l D k a G (G 10) (G 18) hfl (xs (i + 1)) (xs (i + 2))) k_L_80 (rv_X6 X hH) [.int t1] rfl rfl hl.1 (Nat.le_of_ble_eq_true rfl) ⟨Nat.le_of_ble_eq_true rfl, Nat.le_of_ble_eq_true rfl⟩ ⟨Nat.le_of_ble_eq_true rfl, Nat.le_of_ble_eq_true rfl⟩ dL_law_583 (fun t2 G2 H locs h2 hH => ?_)
  obtain ⟨eR2, pG2⟩ := h2
  have e12 : t1 = t2 := by rw [eR1, eR2, hZ.1]
  have hS : zSim G2 := by rw [pG2, show zM G 0 (G 10) (G 18) = G from zM_id G (B := 0) (by omega)]; exact hZ
  refine lv_icmp_eq (tgt := 769) hx hb dL_law_586 (by decide) (fun _ => ?_) (fun q => absurd e12 q)
  exact kk _ _ _ hS hH
set_option maxRecDepth 100000 in
set_option maxHeartbeats 1000000 in
/-- reason -/
theorem lc_15 (Y : lwC p m c s args D k a b N xs) (hZ : zSim G) (hH : zH D k a s G H locs) (hi : i + 6 ≤ N) (hl : lwI a b i ls) (kk : ∀ (G2 : Mem) (H : Heap) (locs : List Loc), zSim G2 → zH D k a s G2 H locs → W p l e room_1 s m args below meth c H locs 131 2418 Q (F0 m 769 ls [])) : W p l e room_1 s m args below meth c H locs 131 2418 Q (F0 m 591 ls []) := by
  have X := Y.1
  obtain ⟨hx, hb, hml, hown, hts⟩ := X.1
  obtain ⟨xr, n, hx4, hn, r1, r2, r18, r4⟩ := zSim_n hZ
  obtain ⟨f0, f1, f3, j2, j3, j1, j01⟩ := zSim_cls hZ hx4
  obtain ⟨len, hlen, l1, l2⟩ := hZ.2.2.2.2.2.1
  refine lv_aload_n hx hb dL_law_591 rfl (lv_at hl 2 rfl) ?_
  refine l_rd Y hH hi hl 1 (by decide) (by decide) dL_law_592 dL_law_593 dL_law_594 dL_law_595 dL_law_596 ?_
  refine l_rd Y hH hi hl 2 (by decide) (by decide) dL_law_597 dL_law_598 dL_law_599 dL_law_600 dL_law_601 ?_
  refine z_callVi (i := 6) (q := 0) X hH (c_X5_reason l D k a G (xs (i + 1)) (xs (i + 2))) k_L_81 (rv_X5 X hH) [] rfl rfl hl.1 (Nat.le_of_ble_eq_true rfl) ⟨Nat.le_of_ble_eq_true rfl, Nat.le_of_ble_eq_true rfl⟩ ⟨Nat.le_of_ble_eq_true rfl, Nat.le_of_ble_eq_true rfl⟩ dL_law_602 (fun t1 G1 H locs h1 hH => ?_)
  obtain ⟨eR1, eG1⟩ := h1
  rw [eG1] at hH
  obtain ⟨hJ, hok, e10, f15⟩ := zSim_mod (G1 := G) hZ (fun r _ _ => rfl)
  have hH : zH D k a s (zM G 0 (G 10) (G 18)) H locs := by rw [show zM G 0 (G 10) (G 18) = G from zM_id G (B := 0) (by omega)]; exact hH
  obtain ⟨hfl, hky, hgu, h9, ⟨Rm, eRm, hR1, hR2⟩, hbd, h160⟩ := hok
  refine lv_aload_n hx hb dL_law_605 rfl (lv_at hl 1 rfl) ?_
  refine l_rd Y hH hi hl 1 (by decide) (by decide) dL_law_606 dL_law_607 dL_law_608 dL_law_609 dL_law_610 ?_
  refine l_rd Y hH hi hl 2 (by decide) (by decide) dL_law_611 dL_law_612 dL_law_613 dL_law_614 dL_law_615 ?_
  refine z_callVi (i := 6) (q := 8) X hH (c_X6_reason l D k a G (G 10) (G 18) (xs (i + 1)) (xs (i + 2))) k_L_84 (rv_X6 X hH) [.int t1] rfl rfl hl.1 (Nat.le_of_ble_eq_true rfl) ⟨Nat.le_of_ble_eq_true rfl, Nat.le_of_ble_eq_true rfl⟩ ⟨Nat.le_of_ble_eq_true rfl, Nat.le_of_ble_eq_true rfl⟩ dL_law_616 (fun t2 G2 H locs h2 hH => ?_)
  obtain ⟨eR2, pG2⟩ := h2
  have e12 : t1 = t2 := by rw [eR1, eR2, hZ.1]
  have hS : zSim G2 := by rw [pG2, show zM G 0 (G 10) (G 18) = G from zM_id G (B := 0) (by omega)]; exact hZ
  refine lv_icmp_eq (tgt := 769) hx hb dL_law_619 (by decide) (fun _ => ?_) (fun q => absurd e12 q)
  exact kk _ _ _ hS hH
set_option maxRecDepth 100000 in
set_option maxHeartbeats 1000000 in
/-- ifAsked -/
theorem lc_16 (Y : lwC p m c s args D k a b N xs) (hZ : zSim G) (hH : zH D k a s G H locs) (hi : i + 6 ≤ N) (hl : lwI a b i ls) (kk : ∀ (G2 : Mem) (H : Heap) (locs : List Loc), zSim G2 → zH D k a s G2 H locs → W p l e room_1 s m args below meth c H locs 131 2418 Q (F0 m 769 ls [])) : W p l e room_1 s m args below meth c H locs 131 2418 Q (F0 m 624 ls []) := by
  have X := Y.1
  obtain ⟨hx, hb, hml, hown, hts⟩ := X.1
  obtain ⟨xr, n, hx4, hn, r1, r2, r18, r4⟩ := zSim_n hZ
  obtain ⟨f0, f1, f3, j2, j3, j1, j01⟩ := zSim_cls hZ hx4
  obtain ⟨len, hlen, l1, l2⟩ := hZ.2.2.2.2.2.1
  refine lv_aload_n hx hb dL_law_624 rfl (lv_at hl 2 rfl) ?_
  refine l_rd Y hH hi hl 1 (by decide) (by decide) dL_law_625 dL_law_626 dL_law_627 dL_law_628 dL_law_629 ?_
  refine l_rd Y hH hi hl 2 (by decide) (by decide) dL_law_630 dL_law_631 dL_law_632 dL_law_633 dL_law_634 ?_
  refine l_rd Y hH hi hl 3 (by decide) (by decide) dL_law_635 dL_law_636 dL_law_637 dL_law_638 dL_law_639 ?_
  refine z_callVi (i := 6) (q := 0) X hH (c_X5_ifAsked l D k a G (xs (i + 1)) (xs (i + 2)) (xs (i + 3))) k_L_85 (rv_X5 X hH) [] rfl rfl hl.1 (Nat.le_of_ble_eq_true rfl) ⟨Nat.le_of_ble_eq_true rfl, Nat.le_of_ble_eq_true rfl⟩ ⟨Nat.le_of_ble_eq_true rfl, Nat.le_of_ble_eq_true rfl⟩ dL_law_640 (fun t1 G1 H locs h1 hH => ?_)
  obtain ⟨eR1, eG1⟩ := h1
  rw [eG1] at hH
  obtain ⟨hJ, hok, e10, f15⟩ := zSim_mod (G1 := G) hZ (fun r _ _ => rfl)
  have hH : zH D k a s (zM G 0 (G 10) (G 18)) H locs := by rw [show zM G 0 (G 10) (G 18) = G from zM_id G (B := 0) (by omega)]; exact hH
  obtain ⟨hfl, hky, hgu, h9, ⟨Rm, eRm, hR1, hR2⟩, hbd, h160⟩ := hok
  refine lv_aload_n hx hb dL_law_643 rfl (lv_at hl 1 rfl) ?_
  refine l_rd Y hH hi hl 1 (by decide) (by decide) dL_law_644 dL_law_645 dL_law_646 dL_law_647 dL_law_648 ?_
  refine l_rd Y hH hi hl 2 (by decide) (by decide) dL_law_649 dL_law_650 dL_law_651 dL_law_652 dL_law_653 ?_
  refine l_rd Y hH hi hl 3 (by decide) (by decide) dL_law_654 dL_law_655 dL_law_656 dL_law_657 dL_law_658 ?_
  refine z_callVi (i := 6) (q := 8) X hH (c_X6_ifAsked l D k a G (G 10) (G 18) hJ h160 hfl hky Rm eRm hR1 hR2 h9 hgu (xs (i + 1)) (xs (i + 2)) (xs (i + 3))) k_L_88 (rv_X6 X hH) [.int t1] rfl rfl hl.1 (Nat.le_of_ble_eq_true rfl) ⟨Nat.le_of_ble_eq_true rfl, Nat.le_of_ble_eq_true rfl⟩ ⟨Nat.le_of_ble_eq_true rfl, Nat.le_of_ble_eq_true rfl⟩ dL_law_659 (fun t2 G2 H locs h2 hH => ?_)
  obtain ⟨eR2, pG2⟩ := h2
  have e12 : t1 = t2 := by rw [eR1, eR2, hZ.1]
  have hS : zSim G2 := zSim_act (o := none) hZ hx4 hn r1 r2 r4 (fun w q => by cases q) pG2
  refine lv_icmp_eq (tgt := 769) hx hb dL_law_662 (by decide) (fun _ => ?_) (fun q => absurd e12 q)
  exact kk _ _ _ hS hH
set_option maxRecDepth 100000 in
set_option maxHeartbeats 1000000 in
/-- reach -/
theorem lc_17 (Y : lwC p m c s args D k a b N xs) (hZ : zSim G) (hH : zH D k a s G H locs) (hi : i + 6 ≤ N) (hl : lwI a b i ls) (kk : ∀ (G2 : Mem) (H : Heap) (locs : List Loc), zSim G2 → zH D k a s G2 H locs → W p l e room_1 s m args below meth c H locs 131 2418 Q (F0 m 769 ls [])) : W p l e room_1 s m args below meth c H locs 131 2418 Q (F0 m 667 ls []) := by
  have X := Y.1
  obtain ⟨hx, hb, hml, hown, hts⟩ := X.1
  obtain ⟨xr, n, hx4, hn, r1, r2, r18, r4⟩ := zSim_n hZ
  obtain ⟨f0, f1, f3, j2, j3, j1, j01⟩ := zSim_cls hZ hx4
  obtain ⟨len, hlen, l1, l2⟩ := hZ.2.2.2.2.2.1
  refine lv_aload_n hx hb dL_law_667 rfl (lv_at hl 2 rfl) ?_
  refine l_rd Y hH hi hl 1 (by decide) (by decide) dL_law_668 dL_law_669 dL_law_670 dL_law_671 dL_law_672 ?_
  refine l_rd Y hH hi hl 2 (by decide) (by decide) dL_law_673 dL_law_674 dL_law_675 dL_law_676 dL_law_677 ?_
  refine z_callVi (i := 6) (q := 0) X hH (c_X5_reach l D k a G (xs (i + 1)) (xs (i + 2))) k_L_89 (rv_X5 X hH) [] rfl rfl hl.1 (Nat.le_of_ble_eq_true rfl) ⟨Nat.le_of_ble_eq_true rfl, Nat.le_of_ble_eq_true rfl⟩ ⟨Nat.le_of_ble_eq_true rfl, Nat.le_of_ble_eq_true rfl⟩ dL_law_678 (fun t1 G1 H locs h1 hH => ?_)
  obtain ⟨eR1, eG1⟩ := h1
  rw [eG1] at hH
  obtain ⟨hJ, hok, e10, f15⟩ := zSim_mod (G1 := G) hZ (fun r _ _ => rfl)
  have hH : zH D k a s (zM G 0 (G 10) (G 18)) H locs := by rw [show zM G 0 (G 10) (G 18) = G from zM_id G (B := 0) (by omega)]; exact hH
  obtain ⟨hfl, hky, hgu, h9, ⟨Rm, eRm, hR1, hR2⟩, hbd, h160⟩ := hok
  refine lv_aload_n hx hb dL_law_681 rfl (lv_at hl 1 rfl) ?_
  refine l_rd Y hH hi hl 1 (by decide) (by decide) dL_law_682 dL_law_683 dL_law_684 dL_law_685 dL_law_686 ?_
  refine l_rd Y hH hi hl 2 (by decide) (by decide) dL_law_687 dL_law_688 dL_law_689 dL_law_690 dL_law_691 ?_
  refine z_callVi (i := 6) (q := 8) X hH (c_X6_reach l D k a G (G 10) (G 18) hky (xs (i + 1)) (xs (i + 2))) k_L_92 (rv_X6 X hH) [.int t1] rfl rfl hl.1 (Nat.le_of_ble_eq_true rfl) ⟨Nat.le_of_ble_eq_true rfl, Nat.le_of_ble_eq_true rfl⟩ ⟨Nat.le_of_ble_eq_true rfl, Nat.le_of_ble_eq_true rfl⟩ dL_law_692 (fun t2 G2 H locs h2 hH => ?_)
  obtain ⟨eR2, pG2⟩ := h2
  have e12 : t1 = t2 := by rw [eR1, eR2, hZ.1]
  have hS : zSim G2 := by rw [pG2, show zM G 0 (G 10) (G 18) = G from zM_id G (B := 0) (by omega)]; exact hZ
  refine lv_icmp_eq (tgt := 769) hx hb dL_law_695 (by decide) (fun _ => ?_) (fun q => absurd e12 q)
  exact kk _ _ _ hS hH
set_option maxRecDepth 100000 in
set_option maxHeartbeats 1000000 in
/-- oldest -/
theorem lc_18 (Y : lwC p m c s args D k a b N xs) (hZ : zSim G) (hH : zH D k a s G H locs) (hi : i + 6 ≤ N) (hl : lwI a b i ls) (kk : ∀ (G2 : Mem) (H : Heap) (locs : List Loc), zSim G2 → zH D k a s G2 H locs → W p l e room_1 s m args below meth c H locs 131 2418 Q (F0 m 769 ls [])) : W p l e room_1 s m args below meth c H locs 131 2418 Q (F0 m 700 ls []) := by
  have X := Y.1
  obtain ⟨hx, hb, hml, hown, hts⟩ := X.1
  obtain ⟨xr, n, hx4, hn, r1, r2, r18, r4⟩ := zSim_n hZ
  obtain ⟨f0, f1, f3, j2, j3, j1, j01⟩ := zSim_cls hZ hx4
  obtain ⟨len, hlen, l1, l2⟩ := hZ.2.2.2.2.2.1
  refine lv_aload_n hx hb dL_law_700 rfl (lv_at hl 2 rfl) ?_
  refine z_callVi (i := 6) (q := 0) X hH (c_X5_oldest l D k a G) k_L_93 (rv_X5 X hH) [] rfl rfl hl.1 (Nat.le_of_ble_eq_true rfl) ⟨Nat.le_of_ble_eq_true rfl, Nat.le_of_ble_eq_true rfl⟩ ⟨Nat.le_of_ble_eq_true rfl, Nat.le_of_ble_eq_true rfl⟩ dL_law_701 (fun t1 G1 H locs h1 hH => ?_)
  obtain ⟨eR1, eG1⟩ := h1
  rw [eG1] at hH
  obtain ⟨hJ, hok, e10, f15⟩ := zSim_mod (G1 := G) hZ (fun r _ _ => rfl)
  have hH : zH D k a s (zM G 0 (G 10) (G 18)) H locs := by rw [show zM G 0 (G 10) (G 18) = G from zM_id G (B := 0) (by omega)]; exact hH
  obtain ⟨hfl, hky, hgu, h9, ⟨Rm, eRm, hR1, hR2⟩, hbd, h160⟩ := hok
  refine lv_aload_n hx hb dL_law_704 rfl (lv_at hl 1 rfl) ?_
  refine z_callVi (i := 6) (q := 8) X hH (c_X6_oldest l D k a G (G 10) (G 18) hfl) k_L_96 (rv_X6 X hH) [.int t1] rfl rfl hl.1 (Nat.le_of_ble_eq_true rfl) ⟨Nat.le_of_ble_eq_true rfl, Nat.le_of_ble_eq_true rfl⟩ ⟨Nat.le_of_ble_eq_true rfl, Nat.le_of_ble_eq_true rfl⟩ dL_law_705 (fun t2 G2 H locs h2 hH => ?_)
  obtain ⟨eR2, pG2⟩ := h2
  have e12 : t1 = t2 := by rw [eR1, eR2, hZ.1]
  have hS : zSim G2 := by rw [pG2, show zM G 0 (G 10) (G 18) = G from zM_id G (B := 0) (by omega)]; exact hZ
  refine lv_icmp_eq (tgt := 769) hx hb dL_law_708 (by decide) (fun _ => ?_) (fun q => absurd e12 q)
  exact kk _ _ _ hS hH
set_option maxRecDepth 100000 in
set_option maxHeartbeats 1000000 in
/-- tableOf -/
theorem lc_19 (Y : lwC p m c s args D k a b N xs) (hZ : zSim G) (hH : zH D k a s G H locs) (hi : i + 6 ≤ N) (hl : lwI a b i ls) (kk : ∀ (G2 : Mem) (H : Heap) (locs : List Loc), zSim G2 → zH D k a s G2 H locs → W p l e room_1 s m args below meth c H locs 131 2418 Q (F0 m 769 ls [])) : W p l e room_1 s m args below meth c H locs 131 2418 Q (F0 m 713 ls []) := by
  have X := Y.1
  obtain ⟨hx, hb, hml, hown, hts⟩ := X.1
  obtain ⟨xr, n, hx4, hn, r1, r2, r18, r4⟩ := zSim_n hZ
  obtain ⟨f0, f1, f3, j2, j3, j1, j01⟩ := zSim_cls hZ hx4
  obtain ⟨len, hlen, l1, l2⟩ := hZ.2.2.2.2.2.1
  refine lv_aload_n hx hb dL_law_713 rfl (lv_at hl 2 rfl) ?_
  refine l_rd Y hH hi hl 1 (by decide) (by decide) dL_law_714 dL_law_715 dL_law_716 dL_law_717 dL_law_718 ?_
  refine l_rd Y hH hi hl 2 (by decide) (by decide) dL_law_719 dL_law_720 dL_law_721 dL_law_722 dL_law_723 ?_
  refine z_callVi (i := 6) (q := 0) X hH (c_X5_tableOf l D k a G (xs (i + 1)) (xs (i + 2))) k_L_97 (rv_X5 X hH) [] rfl rfl hl.1 (Nat.le_of_ble_eq_true rfl) ⟨Nat.le_of_ble_eq_true rfl, Nat.le_of_ble_eq_true rfl⟩ ⟨Nat.le_of_ble_eq_true rfl, Nat.le_of_ble_eq_true rfl⟩ dL_law_724 (fun t1 G1 H locs h1 hH => ?_)
  obtain ⟨eR1, eG1⟩ := h1
  rw [eG1] at hH
  obtain ⟨hJ, hok, e10, f15⟩ := zSim_mod (G1 := G) hZ (fun r _ _ => rfl)
  have hH : zH D k a s (zM G 0 (G 10) (G 18)) H locs := by rw [show zM G 0 (G 10) (G 18) = G from zM_id G (B := 0) (by omega)]; exact hH
  obtain ⟨hfl, hky, hgu, h9, ⟨Rm, eRm, hR1, hR2⟩, hbd, h160⟩ := hok
  refine lv_aload_n hx hb dL_law_727 rfl (lv_at hl 1 rfl) ?_
  refine l_rd Y hH hi hl 1 (by decide) (by decide) dL_law_728 dL_law_729 dL_law_730 dL_law_731 dL_law_732 ?_
  refine l_rd Y hH hi hl 2 (by decide) (by decide) dL_law_733 dL_law_734 dL_law_735 dL_law_736 dL_law_737 ?_
  refine z_callVi (i := 6) (q := 8) X hH (c_X6_tableOf l D k a G (G 10) (G 18) hfl (xs (i + 1)) (xs (i + 2))) k_L_100 (rv_X6 X hH) [.int t1] rfl rfl hl.1 (Nat.le_of_ble_eq_true rfl) ⟨Nat.le_of_ble_eq_true rfl, Nat.le_of_ble_eq_true rfl⟩ ⟨Nat.le_of_ble_eq_true rfl, Nat.le_of_ble_eq_true rfl⟩ dL_law_738 (fun t2 G2 H locs h2 hH => ?_)
  obtain ⟨eR2, pG2⟩ := h2
  have e12 : t1 = t2 := by rw [eR1, eR2, hZ.1]
  have hS : zSim G2 := by rw [pG2, show zM G 0 (G 10) (G 18) = G from zM_id G (B := 0) (by omega)]; exact hZ
  refine lv_icmp_eq (tgt := 769) hx hb dL_law_741 (by decide) (fun _ => ?_) (fun q => absurd e12 q)
  exact kk _ _ _ hS hH
set_option maxRecDepth 100000 in
set_option maxHeartbeats 1000000 in
/-- count -/
theorem lc_20 (Y : lwC p m c s args D k a b N xs) (hZ : zSim G) (hH : zH D k a s G H locs) (hi : i + 6 ≤ N) (hl : lwI a b i ls) (kk : ∀ (G2 : Mem) (H : Heap) (locs : List Loc), zSim G2 → zH D k a s G2 H locs → W p l e room_1 s m args below meth c H locs 131 2418 Q (F0 m 769 ls [])) : W p l e room_1 s m args below meth c H locs 131 2418 Q (F0 m 746 ls []) := by
  have X := Y.1
  obtain ⟨hx, hb, hml, hown, hts⟩ := X.1
  obtain ⟨xr, n, hx4, hn, r1, r2, r18, r4⟩ := zSim_n hZ
  obtain ⟨f0, f1, f3, j2, j3, j1, j01⟩ := zSim_cls hZ hx4
  obtain ⟨len, hlen, l1, l2⟩ := hZ.2.2.2.2.2.1
  refine lv_aload_n hx hb dL_law_746 rfl (lv_at hl 2 rfl) ?_
  refine l_rd Y hH hi hl 1 (by decide) (by decide) dL_law_747 dL_law_748 dL_law_749 dL_law_750 dL_law_751 ?_
  refine z_callVi (i := 6) (q := 0) X hH (c_X5_count l D k a G (xs (i + 1))) k_L_101 (rv_X5 X hH) [] rfl rfl hl.1 (Nat.le_of_ble_eq_true rfl) ⟨Nat.le_of_ble_eq_true rfl, Nat.le_of_ble_eq_true rfl⟩ ⟨Nat.le_of_ble_eq_true rfl, Nat.le_of_ble_eq_true rfl⟩ dL_law_752 (fun t1 G1 H locs h1 hH => ?_)
  obtain ⟨eR1, eG1⟩ := h1
  rw [eG1] at hH
  obtain ⟨hJ, hok, e10, f15⟩ := zSim_mod (G1 := G) hZ (fun r _ _ => rfl)
  have hH : zH D k a s (zM G 0 (G 10) (G 18)) H locs := by rw [show zM G 0 (G 10) (G 18) = G from zM_id G (B := 0) (by omega)]; exact hH
  obtain ⟨hfl, hky, hgu, h9, ⟨Rm, eRm, hR1, hR2⟩, hbd, h160⟩ := hok
  refine lv_aload_n hx hb dL_law_755 rfl (lv_at hl 1 rfl) ?_
  refine l_rd Y hH hi hl 1 (by decide) (by decide) dL_law_756 dL_law_757 dL_law_758 dL_law_759 dL_law_760 ?_
  refine z_callVi (i := 6) (q := 8) X hH (c_X6_count l D k a G (G 10) (G 18) hfl (xs (i + 1))) k_L_104 (rv_X6 X hH) [.int t1] rfl rfl hl.1 (Nat.le_of_ble_eq_true rfl) ⟨Nat.le_of_ble_eq_true rfl, Nat.le_of_ble_eq_true rfl⟩ ⟨Nat.le_of_ble_eq_true rfl, Nat.le_of_ble_eq_true rfl⟩ dL_law_761 (fun t2 G2 H locs h2 hH => ?_)
  obtain ⟨eR2, pG2⟩ := h2
  have e12 : t1 = t2 := by rw [eR1, eR2, hZ.1, r2, l1, r18, l2]
  have hS : zSim G2 := by rw [pG2, show zM G 0 (G 10) (G 18) = G from zM_id G (B := 0) (by omega)]; exact hZ
  refine lv_icmp_eq (tgt := 769) hx hb dL_law_764 (by decide) (fun _ => ?_) (fun q => absurd e12 q)
  exact kk _ _ _ hS hH
end LCS
