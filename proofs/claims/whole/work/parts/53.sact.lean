theorem zRx_o {G : Mem} {x r : Nat} (h1 : r ≠ 6) (h2 : r ≠ 2 + x) : zRecX G x r = G r := zRecX_o G h1 h2
theorem zRx_x {G : Mem} {x : Nat} (hx : x < 4) : zRecX G x (2 + x) = G 0 := by
  unfold zRecX
  rw [zUp_n _ _ (by omega), zUp_s]
theorem zRx_6 {G : Mem} {x : Nat} : zRecX G x 6 = upd (upd (G 6) 0 (nI ((x + 1) % 4))) 1 (if 4 < G 6 1 + 1 then 4 else G 6 1 + 1) := by
  unfold zRecX
  rw [zUp_s]
theorem z_ns {n : Nat} (hn : n ≤ 4) : (if 4 < nI n + 1 then 4 else nI n + 1) = nI (if n = 4 then 4 else n + 1) := by
  rw [nI_1]
  by_cases h : n = 4
  · rw [if_pos h, if_pos (show (4 : Int32) < nI (n + 1) from nI_lt (a := 4) (by omega) (by omega))]; rfl
  · rw [if_neg h, if_neg (show ¬ (4 : Int32) < nI (n + 1) from nI_nlt (a := 4) (by omega) (by omega))]
theorem mRecU_0 {u : V} {n : Nat} : mRecU u n 0 = nI (if n = 4 then 4 else n + 1) := by
  unfold mRecU
  rw [zu_s]
  split <;> rfl
theorem mRecG_4 {g : Mem} {v : V} : mRecG g v 4 11 = g 12 ∧ mRecG g v 4 12 = g 13 ∧ mRecG g v 4 13 = g 14 ∧ mRecG g v 4 14 = v := by
  unfold mRecG
  rw [if_pos rfl]
  refine ⟨?_, ?_, ?_, ?_⟩
  · rw [zUp_n _ _ (by omega), zUp_n _ _ (by omega), zUp_n _ _ (by omega)]; exact zUp_s _ _ _
  · rw [zUp_n _ _ (by omega), zUp_n _ _ (by omega)]; exact zUp_s _ _ _
  · rw [zUp_n _ _ (by omega)]; exact zUp_s _ _ _
  · exact zUp_s _ _ _
theorem mRecG_3 {g : Mem} {v : V} {n : Nat} (h : n ≠ 4) : mRecG g v n (11 + n) = v ∧ ∀ i, i ≠ n → mRecG g v n (11 + i) = g (11 + i) := by
  unfold mRecG
  rw [if_neg h]
  exact ⟨by rw [show 11 + n = 10 + (n + 1) by omega, zUp_s], fun i hi => by rw [zUp_n _ _ (by omega)]⟩
theorem zSim_rec {G G1 g' : Mem} {x n : Nat} {v' w t : V} (h : zSim G) (hx : x < 4) (hn : n ≤ 4) (r1 : G 6 0 = nI x) (r2 : G 6 1 = nI n) (r4 : zRing G x n) (hv : zOkV v') (o0 : G1 0 = v') (o6 : ∀ j, j < 3 ∨ j = 5 → G1 6 j = zRecX G x 6 j) (oo : ∀ r, r ≠ 0 → r ≠ 6 → r ≠ 8 → r ≠ 9 → r ≠ 17 → G1 r = zRecX G x r)
    (e : g' = zM (zUp (mRecG G1 (G1 10) n) (10 + 6) w) 0 v' t) (hw : ∀ j, 160 ≤ j → w j = 0) (ht : ∀ j, j < 3 → t j = mRecU (G1 18) n j) : zSim g' := by
  have V0 : ∀ r, r ≠ 10 → r ≠ 16 → r ≠ 18 → g' r = mRecG G1 (G1 10) n r := fun r a b c => by
    rw [e, zM_o _ _ _ c (by omega), zUp_n _ _ (by omega)]
  have V1 : ∀ r, r ≠ 10 → r ≠ 16 → r ≠ 18 → (r < 11 ∨ 14 < r) → g' r = G1 r := fun r a b c d => (V0 r a b c).trans (mRecG_o hn d)
  have G10 : G1 10 = G 0 := by rw [oo 10 (by omega) (by omega) (by omega) (by omega) (by omega), zRx_o (by omega) (by omega)]; exact h.1.symm
  have G18 : G1 18 = G 18 := by rw [oo 18 (by omega) (by omega) (by omega) (by omega) (by omega), zRx_o (by omega) (by omega)]
  have O : ∀ r, r ≠ 0 → r ≠ 6 → r ≠ 8 → r ≠ 9 → r ≠ 17 → r ≠ 2 + x → G1 r = G r := fun r a b c d f i => (oo r a b c d f).trans (zRx_o b i)
  have T : ∀ j, j < 3 → g' 18 j = mRecU (G 18) n j := fun j hj => by rw [e, zM_18, ht j hj, G18]
  refine zSim_s h hx hn r1 r2 r4 hv ?_ ?_ ?_ ?_ ?_ ?_ ?_ (fun r a b c => ?_) ?_ ?_ ?_ ?_ (fun q => ?_) (fun q => ?_) (fun j hj => ?_) ?_ ?_ ?_
  · rw [V1 0 (by omega) (by omega) (by omega) (by omega)]; exact o0
  · rw [e]; exact zM_B _ (by omega) _ _
  · rw [V1 1 (by omega) (by omega) (by omega) (by omega), O 1 (by omega) (by omega) (by omega) (by omega) (by omega) (by omega)]
  · rw [V1 15 (by omega) (by omega) (by omega) (by omega), O 15 (by omega) (by omega) (by omega) (by omega) (by omega) (by omega)]
  · rw [V1 7 (by omega) (by omega) (by omega) (by omega), O 7 (by omega) (by omega) (by omega) (by omega) (by omega) (by omega)]
  · rw [V1 19 (by omega) (by omega) (by omega) (by omega), O 19 (by omega) (by omega) (by omega) (by omega) (by omega) (by omega)]
  · rw [V1 (2 + x) (by omega) (by omega) (by omega) (by omega), oo (2 + x) (by omega) (by omega) (by omega) (by omega) (by omega), zRx_x hx]
  · rw [V1 r (by omega) (by omega) (by omega) (by omega), O r (by omega) (by omega) (by omega) (by omega) (by omega) c]
  · rw [V1 6 (by omega) (by omega) (by omega) (by omega), o6 0 (by omega), zRx_6, zu_n _ _ (by omega), zu_s]
  · rw [V1 6 (by omega) (by omega) (by omega) (by omega), o6 1 (by omega), zRx_6, zu_s, r2, z_ns hn]
  · rw [V1 6 (by omega) (by omega) (by omega) (by omega), o6 2 (by omega), zRx_6, zu_n _ _ (by omega), zu_n _ _ (by omega)]
  · rw [V1 6 (by omega) (by omega) (by omega) (by omega), o6 5 (by omega), zRx_6, zu_n _ _ (by omega), zu_n _ _ (by omega)]
  · subst q
    have m := mRecG_4 (g := G1) (v := G1 10)
    rw [V0 11 (by omega) (by omega) (by omega), V0 12 (by omega) (by omega) (by omega), V0 13 (by omega) (by omega) (by omega), V0 14 (by omega) (by omega) (by omega), m.1, m.2.1, m.2.2.1, m.2.2.2]
    exact ⟨O 12 (by omega) (by omega) (by omega) (by omega) (by omega) (by omega), O 13 (by omega) (by omega) (by omega) (by omega) (by omega) (by omega), O 14 (by omega) (by omega) (by omega) (by omega) (by omega) (by omega), G10⟩
  · have m := mRecG_3 (g := G1) (v := G1 10) q
    refine ⟨by rw [V0 (11 + n) (by omega) (by omega) (by omega), m.1]; exact G10, fun i hi hni => ?_⟩
    rw [V0 (11 + i) (by omega) (by omega) (by omega), m.2 i hni]
    exact O (11 + i) (by omega) (by omega) (by omega) (by omega) (by omega) (by omega)
  · rw [e, zM_o _ _ _ (by omega) (by omega)]
    exact (congrFun (zUp_s _ _ _) j).trans (hw j hj)
  · rw [T 0 (by omega)]; exact mRecU_0
  · rw [T 1 (by omega)]; exact zu_n _ _ (by omega)
  · rw [T 2 (by omega)]; exact zu_n _ _ (by omega)
