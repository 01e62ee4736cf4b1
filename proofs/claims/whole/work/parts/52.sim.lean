/-! the two sides beside each other -/
def zRing (G : Mem) (x n : Nat) : Prop := ∀ i, i < n → G (11 + i) = G (2 + (x + 4 - n + i) % 4) ∧ zOkV (G (11 + i))
def zSim (G : Mem) : Prop := G 0 = G 10 ∧ zOkV (G 0) ∧ (∀ r, r < 6 → zFl (G r) ∧ ∀ j, 160 ≤ j → G r j = 0) ∧ zJk G ∧ zFl (G 15) ∧ (∃ L, L ≤ 80 ∧ G 6 2 = nI L ∧ G 18 2 = nI L) ∧ G 7 = G 19 ∧
  (∃ x n, x < 4 ∧ n ≤ 4 ∧ G 6 0 = nI x ∧ G 6 1 = nI n ∧ G 18 0 = nI n ∧ zRing G x n) ∧ G 6 5 = G 18 1 ∧ (G 6 5 = 0 ∨ (G 6 5 = 1 ∧ G 1 = G 15 ∧ zOkV (G 1)))
theorem zSim_co {G g' : Mem} (h : zSim G) (e : ∀ r, r ≠ 6 → r ≠ 8 → r ≠ 9 → r ≠ 16 → r ≠ 17 → r ≠ 18 → g' r = G r) (e6 : ∀ j, j < 3 ∨ j = 5 → g' 6 j = G 6 j) (e16 : ∀ j, 160 ≤ j → g' 16 j = 0) (e18 : ∀ j, j < 3 → g' 18 j = G 18 j) : zSim g' := by
  obtain ⟨h1, h2, h3, h4, h5, ⟨L, hL, l1, l2⟩, h7, ⟨x, n, hx, hn, r1, r2, r3, r4⟩, h8, h9⟩ := h
  have E : ∀ r, r < 6 → g' r = G r := fun r hr => e r (by omega) (by omega) (by omega) (by omega) (by omega) (by omega)
  have E2 : ∀ r, 10 ≤ r → r < 16 → g' r = G r := fun r a b => e r (by omega) (by omega) (by omega) (by omega) (by omega) (by omega)
  refine ⟨?_, ?_, fun r hr => ?_, fun B hB j hj => ?_, ?_, ⟨L, hL, ?_, ?_⟩, ?_, ⟨x, n, hx, hn, ?_, ?_, ?_, fun i hi => ?_⟩, ?_, ?_⟩
  · rw [E 0 (by omega), E2 10 (by omega) (by omega)]; exact h1
  · rw [E 0 (by omega)]; exact h2
  · rw [E r hr]; exact h3 r hr
  · by_cases q : B = 6
    · subst q; exact e16 j hj
    · rw [E2 (10 + B) (by omega) (by omega)]; exact h4 B hB j hj
  · rw [E2 15 (by omega) (by omega)]; exact h5
  · rw [e6 2 (by omega)]; exact l1
  · rw [e18 2 (by omega)]; exact l2
  · rw [e 7 (by omega) (by omega) (by omega) (by omega) (by omega) (by omega), e 19 (by omega) (by omega) (by omega) (by omega) (by omega) (by omega)]; exact h7
  · rw [e6 0 (by omega)]; exact r1
  · rw [e6 1 (by omega)]; exact r2
  · rw [e18 0 (by omega)]; exact r3
  · rw [E2 (11 + i) (by omega) (by omega), E (2 + (x + 4 - n + i) % 4) (by omega)]; exact r4 i hi
  · rw [e6 5 (by omega), e18 1 (by omega)]; exact h8
  · rw [e6 5 (by omega), E 1 (by omega), E2 15 (by omega) (by omega)]; exact h9
/-- an act that is recorded: on both sides -/
theorem zSim_s {G g' : Mem} {x n : Nat} {v' : V} (h : zSim G) (hx : x < 4) (hn : n ≤ 4) (r1 : G 6 0 = nI x) (r2 : G 6 1 = nI n) (r4 : zRing G x n) (hv : zOkV v') (e0 : g' 0 = v') (e10 : g' 10 = v')
    (e1 : g' 1 = G 1) (e15 : g' 15 = G 15) (e7 : g' 7 = G 7) (e19 : g' 19 = G 19) (ex : g' (2 + x) = G 0) (er : ∀ r, 2 ≤ r → r < 6 → r ≠ 2 + x → g' r = G r) (e60 : g' 6 0 = nI ((x + 1) % 4)) (e61 : g' 6 1 = nI (if n = 4 then 4 else n + 1))
    (e62 : g' 6 2 = G 6 2) (e65 : g' 6 5 = G 6 5) (e4 : n = 4 → g' 11 = G 12 ∧ g' 12 = G 13 ∧ g' 13 = G 14 ∧ g' 14 = G 0) (e3 : n ≠ 4 → g' (11 + n) = G 0 ∧ ∀ i, i < 4 → i ≠ n → g' (11 + i) = G (11 + i)) (e16 : ∀ j, 160 ≤ j → g' 16 j = 0)
    (s0 : g' 18 0 = nI (if n = 4 then 4 else n + 1)) (s1 : g' 18 1 = G 18 1) (s2 : g' 18 2 = G 18 2) : zSim g' := by
  obtain ⟨h1, h2, h3, h4, h5, ⟨L, hL, l1, l2⟩, h7, -, h8, h9⟩ := h
  have hz := h2.2.2.2.2.2.2
  have hz' := hv.2.2.2.2.2.2
  refine ⟨by rw [e0, e10], by rw [e0]; exact hv, fun r hr => ?_, fun B hB j hj => ?_, by rw [e15]; exact h5, ⟨L, hL, by rw [e62]; exact l1, by rw [s2]; exact l2⟩, by rw [e7, e19]; exact h7, ⟨(x + 1) % 4, if n = 4 then 4 else n + 1, by omega, by split <;> omega, e60, e61, s0, fun i hi => ?_⟩, by rw [e65, s1]; exact h8, ?_⟩
  · by_cases q0 : r = 0
    · subst q0; rw [e0]; exact ⟨hv.1, hz'⟩
    · by_cases q1 : r = 1
      · subst q1; rw [e1]; exact h3 1 (by omega)
      · by_cases q2 : r = 2 + x
        · subst q2; rw [ex]; exact h3 0 (by omega)
        · rw [er r (by omega) hr q2]; exact h3 r hr
  · by_cases q0 : B = 0
    · subst q0; exact (congrFun e10 j).trans (hz' j hj)
    · by_cases q6 : B = 6
      · subst q6; exact e16 j hj
      · by_cases q5 : B = 5
        · subst q5; exact (congrFun e15 j).trans (h4 5 (by omega) j hj)
        · obtain ⟨i, hi, ei⟩ : ∃ i, i < 4 ∧ 10 + B = 11 + i := ⟨B - 1, by omega, by omega⟩
          rw [ei]
          by_cases n4 : n = 4
          · obtain ⟨a1, a2, a3, a4⟩ := e4 n4
            obtain c | c | c | c : i = 0 ∨ i = 1 ∨ i = 2 ∨ i = 3 := by omega
            · subst c; exact (congrFun a1 j).trans (h4 2 (by omega) j hj)
            · subst c; exact (congrFun a2 j).trans (h4 3 (by omega) j hj)
            · subst c; exact (congrFun a3 j).trans (h4 4 (by omega) j hj)
            · subst c; exact (congrFun a4 j).trans (hz j hj)
          · obtain ⟨a1, a2⟩ := e3 n4
            by_cases c : i = n
            · subst c; exact (congrFun a1 j).trans (hz j hj)
            · rw [a2 i hi c, ← ei]; exact h4 B hB j hj
  · by_cases n4 : n = 4
    · rw [if_pos n4] at hi ⊢
      obtain ⟨a1, a2, a3, a4⟩ := e4 n4
      subst n4
      by_cases c : i = 3
      · subst c
        rw [show 2 + ((x + 1) % 4 + 4 - 4 + 3) % 4 = 2 + x by omega, ex, show 11 + 3 = 14 from rfl, a4]
        exact ⟨rfl, h2⟩
      · have hg : g' (11 + i) = G (11 + (i + 1)) := by
          obtain c | c | c : i = 0 ∨ i = 1 ∨ i = 2 := by omega
          · subst c; exact a1
          · subst c; exact a2
          · subst c; exact a3
        have q := r4 (i + 1) (by omega)
        rw [hg, er (2 + ((x + 1) % 4 + 4 - 4 + i) % 4) (by omega) (by omega) (by omega), show 2 + ((x + 1) % 4 + 4 - 4 + i) % 4 = 2 + (x + 4 - 4 + (i + 1)) % 4 by omega]
        exact q
    · rw [if_neg n4] at hi ⊢
      obtain ⟨a1, a2⟩ := e3 n4
      by_cases c : i = n
      · subst c
        rw [show 2 + ((x + 1) % 4 + 4 - (i + 1) + i) % 4 = 2 + x by omega, ex, a1]
        exact ⟨rfl, h2⟩
      · have q := r4 i (by omega)
        rw [a2 i (by omega) c, er (2 + ((x + 1) % 4 + 4 - (n + 1) + i) % 4) (by omega) (by omega) (by omega), show 2 + ((x + 1) % 4 + 4 - (n + 1) + i) % 4 = 2 + (x + 4 - n + i) % 4 by omega]
        exact q
  · rw [e65, e1, e15]; exact h9
