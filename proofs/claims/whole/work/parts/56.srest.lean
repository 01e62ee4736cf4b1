theorem zSim_rest {G g1 g' : Mem} {x n : Nat} (h : zSim G) (hx : x < 4) (hn : n ≤ 4) (r1 : G 6 0 = nI x) (r2 : G 6 1 = nI n) (r4 : zRing G x n) (e1 : g1 = kRestG G) (p : zPo g1 (g1 10) (g1 18) n (if g1 18 1 = 0 then none else some (g1 (10 + 5))) g') : kRest G = (if g1 18 1 = 0 then -4 else fK (g1 (10 + 5)) 12) ∧ zSim g' := by
  have e18 : g1 18 = G 18 := by
    rw [e1]; unfold kRestG
    split
    · rfl
    · rw [zUp_n _ _ (by omega), zRec_x hx r1, zRx_o (by omega) (by omega)]
  have e15 : g1 (10 + 5) = G 15 := by
    rw [e1]; unfold kRestG
    split
    · rfl
    · rw [zUp_n _ _ (by omega), zRec_x hx r1, zRx_o (by omega) (by omega)]
  have h8 := h.2.2.2.2.2.2.2.2.1
  have h9 := h.2.2.2.2.2.2.2.2.2
  have eu : g1 18 1 = G 6 5 := by rw [e18]; exact h8.symm
  rw [eu, e15] at p ⊢
  unfold kRest
  unfold kRestG at e1
  rcases h9 with q | ⟨q, q1, q2⟩
  · rw [if_pos q] at e1 p ⊢
    rw [if_pos q]
    refine ⟨rfl, ?_⟩
    subst e1
    exact zSim_act (o := none) h hx hn r1 r2 r4 zOkO_n p
  · have qn : ¬ G 6 5 = 0 := by rw [q]; decide
    rw [if_neg qn] at e1 p ⊢
    rw [if_neg qn]
    refine ⟨by rw [q1], ?_⟩
    rw [← q1] at p
    have ez : g1 = zAct G (some (G 1)) := e1
    rw [ez] at p
    exact zSim_act h hx hn r1 r2 r4 (zOkO_s q2) p
theorem zSim_all {G g1 g' : Mem} {x n L : Nat} {r : Int32} (h : zSim G) (hx : x < 4) (hn : n ≤ 4) (r1 : G 6 0 = nI x) (r2 : G 6 1 = nI n) (r4 : zRing G x n) (p1 : zAll G L r g1) (p : zPo g1 (g1 10) (g1 18) n (kAll (g1 19) L (g1 10)).2 g') : r = (kAll (g1 19) L (g1 10)).1 ∧ zSim g' := by
  obtain ⟨u1, w1, t1, n1, hu, hr, e1⟩ := p1
  have eo : ∀ r, r ≠ 6 → r ≠ 8 → r ≠ 9 → r ≠ 17 → zT G u1 w1 t1 n1 r = G r := fun r a b c d => zT_o _ _ _ _ _ a b c d
  have e6 : ∀ j, j < 3 ∨ j = 5 → zT G u1 w1 t1 n1 6 j = G 6 j := fun j hj => by rw [zT_6]; exact hu j (by omega) (by omega)
  have ex : zT G u1 w1 t1 n1 6 0 = nI x := (e6 0 (by omega)).trans r1
  have A : ∀ r, r ≠ 0 → r ≠ 6 → r ≠ 8 → r ≠ 9 → r ≠ 17 → r ≠ 2 + x → g1 r = G r := fun r a b c d f i => by
    rw [e1]
    generalize (kAll (G 7) L (G 0)).2 = oo
    cases oo with
    | none => exact eo r b c d f
    | some v9 =>
      show zUp (zRec (zT G u1 w1 t1 n1)) 0 v9 r = _
      rw [zUp_n _ _ a, zRec_x hx ex, zRx_o b i]; exact eo r b c d f
  have a19 : g1 19 = G 7 := (A 19 (by omega) (by omega) (by omega) (by omega) (by omega) (by omega)).trans h.2.2.2.2.2.2.1.symm
  have a10 : g1 10 = G 0 := (A 10 (by omega) (by omega) (by omega) (by omega) (by omega) (by omega)).trans h.1.symm
  have ek : kAll (g1 19) L (g1 10) = kAll (G 7) L (G 0) := by rw [a19, a10]
  rw [ek] at p ⊢
  refine ⟨hr, ?_⟩
  rw [e1] at p
  exact zSim_gen h hx hn r1 r2 r4 (kAll_ok h.2.1) eo e6 p
