theorem zSim_clear {G g1 g' : Mem} (h : zSim G) (e1 : g1 = kClearG G) (e2 : g' = zUp g1 18 (upd (g1 18) 2 0)) : G 6 2 = g1 18 2 ∧ zSim g' := by
  unfold kClearG at e1
  have e18 : g1 18 = G 18 := by rw [e1, zUp_n _ _ (by omega)]
  obtain ⟨h1, h2, h3, h4, h5, ⟨L, hL, l1, l2⟩, h7, ⟨x, n, hx, hn, r1, r2, r3, r4⟩, h8, h9⟩ := h
  refine ⟨by rw [e18, l1, l2], ?_⟩
  have o : ∀ r, r ≠ 6 → r ≠ 18 → g' r = G r := fun r a b => by rw [e2, zUp_n _ _ b, e1, zUp_n _ _ a]
  have o6 : g' 6 = upd (G 6) 2 0 := by rw [e2, zUp_n _ _ (by omega), e1, zUp_s]
  have o18 : g' 18 = upd (G 18) 2 0 := by rw [e2, zUp_s, e18]
  refine ⟨?_, ?_, fun r hr => ?_, fun B hB j hj => ?_, ?_, ⟨0, by omega, ?_, ?_⟩, ?_, ⟨x, n, hx, hn, ?_, ?_, ?_, fun i hi => ?_⟩, ?_, ?_⟩
  · rw [o 0 (by omega) (by omega), o 10 (by omega) (by omega)]; exact h1
  · rw [o 0 (by omega) (by omega)]; exact h2
  · rw [o r (by omega) (by omega)]; exact h3 r hr
  · rw [o (10 + B) (by omega) (by omega)]; exact h4 B hB j hj
  · rw [o 15 (by omega) (by omega)]; exact h5
  · rw [o6, zu_s]; rfl
  · rw [o18, zu_s]; rfl
  · rw [o 7 (by omega) (by omega), o 19 (by omega) (by omega)]; exact h7
  · rw [o6, zu_n _ _ (by omega)]; exact r1
  · rw [o6, zu_n _ _ (by omega)]; exact r2
  · rw [o18, zu_n _ _ (by omega)]; exact r3
  · rw [o (11 + i) (by omega) (by omega), o (2 + (x + 4 - n + i) % 4) (by omega) (by omega)]; exact r4 i hi
  · rw [o6, o18, zu_n _ _ (by omega), zu_n _ _ (by omega)]; exact h8
  · rw [o6, zu_n _ _ (by omega), o 1 (by omega) (by omega), o 15 (by omega) (by omega)]; exact h9
theorem zSim_keep {G g1 g' : Mem} (h : zSim G) (e1 : g1 = kKeepG G) (e2 : g' = zM (zUp g1 (10 + 5) (g1 10)) 0 (g1 10) (upd (g1 18) 1 1)) : fK (G 0) 12 = fK (g1 10) 12 ∧ zSim g' := by
  unfold kKeepG at e1
  have e10 : g1 10 = G 0 := by rw [e1, zUp_n _ _ (by omega), zUp_n _ _ (by omega)]; exact h.1.symm
  have e18 : g1 18 = G 18 := by rw [e1, zUp_n _ _ (by omega), zUp_n _ _ (by omega)]
  rw [e10, e18] at e2
  obtain ⟨h1, h2, h3, h4, h5, ⟨L, hL, l1, l2⟩, h7, ⟨x, n, hx, hn, r1, r2, r3, r4⟩, h8, h9⟩ := h
  refine ⟨by rw [e10], ?_⟩
  have o : ∀ r, r ≠ 1 → r ≠ 6 → r ≠ 10 → r ≠ 15 → r ≠ 18 → g' r = G r := fun r a b c d f => by
    rw [e2, zM_o _ _ _ f (by omega), zUp_n _ _ (by omega), e1, zUp_n _ _ b, zUp_n _ _ a]
  have o6 : g' 6 = upd (G 6) 5 1 := by rw [e2, zM_o _ _ _ (by omega) (by omega), zUp_n _ _ (by omega), e1, zUp_s]
  have o1 : g' 1 = G 0 := by rw [e2, zM_o _ _ _ (by omega) (by omega), zUp_n _ _ (by omega), e1, zUp_n _ _ (by omega), zUp_s]
  have o10 : g' 10 = G 0 := by rw [e2]; exact zM_B _ (by omega) _ _
  have o15 : g' 15 = G 0 := by rw [e2, zM_o _ _ _ (by omega) (by omega)]; exact zUp_s _ _ _
  have o18 : g' 18 = upd (G 18) 1 1 := by rw [e2, zM_18]
  have o0 : g' 0 = G 0 := o 0 (by omega) (by omega) (by omega) (by omega) (by omega)
  have hz := h2.2.2.2.2.2.2
  refine ⟨by rw [o0, o10], by rw [o0]; exact h2, fun r hr => ?_, fun B hB j hj => ?_, by rw [o15]; exact h2.1, ⟨L, hL, ?_, ?_⟩, ?_, ⟨x, n, hx, hn, ?_, ?_, ?_, fun i hi => ?_⟩, ?_, Or.inr ⟨?_, ?_, ?_⟩⟩
  · by_cases q : r = 1
    · subst q; rw [o1]; exact h3 0 (by omega)
    · rw [o r q (by omega) (by omega) (by omega) (by omega)]; exact h3 r hr
  · by_cases q : B = 0
    · subst q; exact (congrFun o10 j).trans (hz j hj)
    · by_cases q5 : B = 5
      · subst q5; exact (congrFun o15 j).trans (hz j hj)
      · rw [o (10 + B) (by omega) (by omega) (by omega) (by omega) (by omega)]; exact h4 B hB j hj
  · rw [o6, zu_n _ _ (by omega)]; exact l1
  · rw [o18, zu_n _ _ (by omega)]; exact l2
  · rw [o 7 (by omega) (by omega) (by omega) (by omega) (by omega), o 19 (by omega) (by omega) (by omega) (by omega) (by omega)]; exact h7
  · rw [o6, zu_n _ _ (by omega)]; exact r1
  · rw [o6, zu_n _ _ (by omega)]; exact r2
  · rw [o18, zu_n _ _ (by omega)]; exact r3
  · rw [o (11 + i) (by omega) (by omega) (by omega) (by omega) (by omega), o (2 + (x + 4 - n + i) % 4) (by omega) (by omega) (by omega) (by omega) (by omega)]; exact r4 i hi
  · rw [o6, o18, zu_s, zu_s]
  · rw [o6, zu_s]
  · rw [o1, o15]
  · rw [o1]; exact h2
theorem zSim_undo {G g1 g' : Mem} {x n : Nat} (h : zSim G) (hx : x < 4) (hn : n ≤ 4) (r1 : G 6 0 = nI x) (r2 : G 6 1 = nI n) (r4 : zRing G x n) (e1 : g1 = kUndoG G) (e2 : g' = if n = 0 then zM g1 0 (g1 10) (g1 18) else zM g1 0 (g1 (10 + n)) (upd (g1 18) 0 (nI (n - 1)))) : kUndo G = (if n = 0 then -4 else nI (n - 1)) ∧ zSim g' := by
  unfold kUndoG at e1
  unfold kUndo
  rw [r2] at e1 ⊢
  by_cases q : n = 0
  · subst q
    rw [if_pos rfl] at e2 ⊢
    rw [if_pos (show nI 0 = 0 from rfl)] at e1 ⊢
    refine ⟨rfl, ?_⟩
    have : g' = G := by rw [e2, e1]; exact zM_id G (by omega)
    rw [this]; exact h
  · have qn : ¬ nI n = 0 := fun w => q ((nI_eq (b := 0) (by omega) (by omega)).mp w)
    rw [if_neg q] at e2 ⊢
    rw [if_neg qn, zBack_x hx r1] at e1
    rw [if_neg qn]
    unfold zBackX at e1
    refine ⟨by rw [show (1 : Int32) = nI 1 from rfl, pk_sub (by omega)], ?_⟩
    have a18 : g1 18 = G 18 := by rw [e1, zUp_n _ _ (by omega), zUp_n _ _ (by omega)]
    have an : g1 (10 + n) = G (10 + n) := by rw [e1, zUp_n _ _ (by omega), zUp_n _ _ (by omega)]
    have hr := r4 (n - 1) (by omega)
    rw [show 11 + (n - 1) = 10 + n by omega, show 2 + (x + 4 - n + (n - 1)) % 4 = 2 + (x + 3) % 4 by omega] at hr
    rw [a18, an] at e2
    have o : ∀ r, r ≠ 0 → r ≠ 6 → r ≠ 10 → r ≠ 18 → g' r = G r := fun r a b c f => by
      rw [e2, zM_o _ _ _ f (by omega), e1, zUp_n _ _ a, zUp_n _ _ b]
    have o0 : g' 0 = G (2 + (x + 3) % 4) := by rw [e2, zM_o _ _ _ (by omega) (by omega), e1, zUp_s]
    have o6 : g' 6 = upd (upd (G 6) 0 (nI ((x + 3) % 4))) 1 (G 6 1 - 1) := by rw [e2, zM_o _ _ _ (by omega) (by omega), e1, zUp_n _ _ (by omega), zUp_s]
    have o10 : g' 10 = G (10 + n) := by rw [e2]; exact zM_B _ (by omega) _ _
    have o18 : g' 18 = upd (G 18) 0 (nI (n - 1)) := by rw [e2, zM_18]
    obtain ⟨h1, h2, h3, h4, h5, ⟨L, hL, l1, l2⟩, h7, -, h8, h9⟩ := h
    refine ⟨by rw [o0, o10]; exact hr.1.symm, by rw [o0, ← hr.1]; exact hr.2, fun r hr6 => ?_, fun B hB j hj => ?_, ?_, ⟨L, hL, ?_, ?_⟩, ?_, ⟨(x + 3) % 4, n - 1, by omega, by omega, ?_, ?_, ?_, fun i hi => ?_⟩, ?_, ?_⟩
    · by_cases c : r = 0
      · subst c; rw [o0]; exact h3 _ (by omega)
      · rw [o r c (by omega) (by omega) (by omega)]; exact h3 r hr6
    · by_cases c : B = 0
      · subst c; exact (congrFun o10 j).trans (hr.2.2.2.2.2.2.2 j hj)
      · rw [o (10 + B) (by omega) (by omega) (by omega) (by omega)]; exact h4 B hB j hj
    · rw [o 15 (by omega) (by omega) (by omega) (by omega)]; exact h5
    · rw [o6, zu_n _ _ (by omega), zu_n _ _ (by omega)]; exact l1
    · rw [o18, zu_n _ _ (by omega)]; exact l2
    · rw [o 7 (by omega) (by omega) (by omega) (by omega), o 19 (by omega) (by omega) (by omega) (by omega)]; exact h7
    · rw [o6, zu_n _ _ (by omega), zu_s]
    · rw [o6, zu_s, r2, show (1 : Int32) = nI 1 from rfl, pk_sub (by omega)]
    · rw [o18, zu_s]
    · have p := r4 i (by omega)
      rw [o (11 + i) (by omega) (by omega) (by omega) (by omega), o (2 + ((x + 3) % 4 + 4 - (n - 1) + i) % 4) (by omega) (by omega) (by omega) (by omega), show 2 + ((x + 3) % 4 + 4 - (n - 1) + i) % 4 = 2 + (x + 4 - n + i) % 4 by omega]
      exact p
    · rw [o6, o18, zu_n _ _ (by omega), zu_n _ _ (by omega), zu_n _ _ (by omega)]; exact h8
    · rw [o6, zu_n _ _ (by omega), zu_n _ _ (by omega), o 1 (by omega) (by omega) (by omega) (by omega), o 15 (by omega) (by omega) (by omega) (by omega)]; exact h9
