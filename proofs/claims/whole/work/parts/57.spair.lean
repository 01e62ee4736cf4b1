/-! what the two contracts ask, out of zSim -/
theorem zAct_o {G : Mem} {o : Option V} {x r : Nat} (hx : x < 4) (r1 : G 6 0 = nI x) (h : 7 ≤ r) : zAct G o r = G r := by
  cases o with
  | none => rfl
  | some v =>
    show zUp (zRec G) 0 v r = G r
    rw [zUp_n _ _ (by omega), zRec_x hx r1, zRx_o (by omega) (by omega)]
theorem zSim_mod {G G1 : Mem} (h : zSim G) (e : ∀ r, 10 ≤ r → r ≤ 16 → G1 r = G r) : zJk G1 ∧ zOkV (G1 10) ∧ G1 10 = G 0 ∧ zFl (G1 (10 + 5)) := by
  have e10 : G1 10 = G 0 := (e 10 (by omega) (by omega)).trans h.1.symm
  refine ⟨fun B hB j hj => ?_, by rw [e10]; exact h.2.1, e10, ?_⟩
  · rw [e (10 + B) (by omega) (by omega)]; exact h.2.2.2.1 B hB j hj
  · rw [e (10 + 5) (by omega) (by omega)]; exact h.2.2.2.2.1
theorem zSim_cls {G : Mem} {x : Nat} (h : zSim G) (hx : x < 4) : zFl (G 0) ∧ zFl (G 1) ∧ zFl (G (2 + (x + 3) % 4)) ∧ (∀ j, 160 ≤ j → G (2 + x) j = G 0 j) ∧ (∀ j, 160 ≤ j → G 0 j = G (2 + (x + 3) % 4) j) ∧ (∀ j, 160 ≤ j → G 1 j = G 0 j) ∧ ∀ j, 160 ≤ j → G 0 j = G 1 j := by
  have Z := h.2.2.1
  exact ⟨(Z 0 (by omega)).1, (Z 1 (by omega)).1, (Z _ (by omega)).1, fun j hj => ((Z (2 + x) (by omega)).2 j hj).trans ((Z 0 (by omega)).2 j hj).symm, fun j hj => ((Z 0 (by omega)).2 j hj).trans ((Z _ (by omega)).2 j hj).symm, fun j hj => ((Z 1 (by omega)).2 j hj).trans ((Z 0 (by omega)).2 j hj).symm, fun j hj => ((Z 0 (by omega)).2 j hj).trans ((Z 1 (by omega)).2 j hj).symm⟩
