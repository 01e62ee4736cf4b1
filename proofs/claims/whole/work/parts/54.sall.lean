theorem zSim_none {G g' : Mem} {w t : V} (h : zSim G) (e : ∀ r, r ≠ 6 → r ≠ 8 → r ≠ 9 → r ≠ 16 → r ≠ 17 → r ≠ 18 → g' r = G r) (e6 : ∀ j, j < 3 ∨ j = 5 → g' 6 j = G 6 j) (e16 : g' 16 = w) (hw : ∀ j, 160 ≤ j → w j = 0) (e18 : g' 18 = t) (ht : ∀ j, j < 3 → t j = G 18 j) : zSim g' :=
  zSim_co h e e6 (fun j hj => (congrFun e16 j).trans (hw j hj)) (fun j hj => (congrFun e18 j).trans (ht j hj))
theorem zM_none (G : Mem) (w t : V) : (∀ r, r ≠ 16 → r ≠ 18 → zM (zUp G (10 + 6) w) 0 (G 10) t r = G r) ∧ zM (zUp G (10 + 6) w) 0 (G 10) t 16 = w ∧ zM (zUp G (10 + 6) w) 0 (G 10) t 18 = t := by
  refine ⟨fun r a b => ?_, ?_, zM_18 _ _ _ _⟩
  · by_cases c : r = 10
    · subst c; exact zM_B _ (by omega) _ _
    · rw [zM_o _ _ _ b (by omega), zUp_n _ _ (by omega)]
  · rw [zM_o _ _ _ (by omega) (by omega)]; exact zUp_s _ _ _
theorem zSim_n {G : Mem} (h : zSim G) : ∃ x n, x < 4 ∧ n ≤ 4 ∧ G 6 0 = nI x ∧ G 6 1 = nI n ∧ G 18 0 = nI n ∧ zRing G x n := h.2.2.2.2.2.2.2.1
/-- the memory behind the class's act, of which only the text's own rows may differ -/
theorem zSim_gen {G H1 g' : Mem} {x n : Nat} {o : Option V} (h : zSim G) (hx : x < 4) (hn : n ≤ 4) (r1 : G 6 0 = nI x) (r2 : G 6 1 = nI n) (r4 : zRing G x n) (ho : zOkO o)
    (e : ∀ r, r ≠ 6 → r ≠ 8 → r ≠ 9 → r ≠ 17 → H1 r = G r) (e6 : ∀ j, j < 3 ∨ j = 5 → H1 6 j = G 6 j) (p : zPo (zAct H1 o) ((zAct H1 o) 10) ((zAct H1 o) 18) n o g') : zSim g' := by
  obtain ⟨w, t, eg, hw, ht⟩ := p
  cases o with
  | none =>
    have m := zM_none H1 w t
    have eg : g' = zM (zUp H1 (10 + 6) w) 0 (H1 10) t := eg
    refine zSim_none (w := w) (t := t) h (fun r a b c d f i => ?_) (fun j hj => ?_) (by rw [eg]; exact m.2.1) hw (by rw [eg]; exact m.2.2) (fun j hj => ?_)
    · rw [eg, m.1 r d i]; exact e r a b c f
    · rw [eg, m.1 6 (by omega) (by omega)]; exact e6 j hj
    · rw [ht j hj]
      show H1 18 j = _
      rw [e 18 (by omega) (by omega) (by omega) (by omega)]
  | some v' =>
    have ex : H1 6 0 = nI x := (e6 0 (by omega)).trans r1
    have ez : zAct H1 (some v') = zUp (zRecX H1 x) 0 v' := by
      show zUp (zRec H1) 0 v' = _
      rw [zRec_x hx ex]
    refine zSim_rec (G1 := zAct H1 (some v')) h hx hn r1 r2 r4 (ho v' rfl) ?_ (fun j hj => ?_) (fun r a b c d f => ?_) eg hw ht
    · rw [ez, zUp_s]
    · rw [ez, zUp_n _ _ (by omega), zRx_6, zRx_6, e6 1 (by omega)]
      by_cases q1 : j = 1
      · subst q1; rw [zu_s, zu_s]
      · rw [zu_n _ _ q1, zu_n _ _ q1]
        by_cases q0 : j = 0
        · subst q0; rw [zu_s, zu_s]
        · rw [zu_n _ _ q0, zu_n _ _ q0]; exact e6 j hj
    · rw [ez, zUp_n _ _ a]
      by_cases q : r = 2 + x
      · subst q; rw [zRx_x hx, zRx_x hx]; exact e 0 (by omega) (by omega) (by omega) (by omega)
      · rw [zRx_o b q, zRx_o b q]; exact e r b c d f
theorem zSim_act {G g' : Mem} {x n : Nat} {o : Option V} (h : zSim G) (hx : x < 4) (hn : n ≤ 4) (r1 : G 6 0 = nI x) (r2 : G 6 1 = nI n) (r4 : zRing G x n) (ho : zOkO o) (p : zPo (zAct G o) ((zAct G o) 10) ((zAct G o) 18) n o g') : zSim g' :=
  zSim_gen h hx hn r1 r2 r4 ho (fun _ _ _ _ _ => rfl) (fun _ _ => rfl) p
theorem zSim_type {G g1 g' : Mem} {L : Nat} {ct : Int32} (h : zSim G) (hL : L ≤ 80) (l1 : G 6 2 = nI L) (l2 : G 18 2 = nI L) (e1 : g1 = kTypeG G ct) (e2 : g' = if g1 18 2 < 80 then zUp (zUp g1 19 (upd (g1 19) (iN (g1 18 2)) ct)) 18 (upd (g1 18) 2 (g1 18 2 + 1)) else g1) : kType G ct = (if g1 18 2 < 80 then g1 18 2 + 1 else -3) ∧ zSim g' := by
  have e18 : g1 18 = G 18 := by
    rw [e1]; unfold kTypeG
    split
    · rw [zUp_n _ _ (by omega), zUp_n _ _ (by omega)]
    · rfl
  rw [e18, l2] at e2 ⊢
  unfold kType
  unfold kTypeG at e1
  rw [l1] at e1 ⊢
  refine ⟨rfl, ?_⟩
  by_cases q : nI L < 80
  · rw [if_pos q] at e1 e2
    have hl : L < 80 := (nI_ltI (a := L) (b := 80) (by omega) (by omega)).mp q
    have o : ∀ r, r ≠ 6 → r ≠ 7 → r ≠ 18 → r ≠ 19 → g' r = G r := fun r a b c d => by
      rw [e2, zUp_n _ _ c, zUp_n _ _ d, e1, zUp_n _ _ a, zUp_n _ _ b]
    have o6 : g' 6 = upd (G 6) 2 (nI L + 1) := by rw [e2, zUp_n _ _ (by omega), zUp_n _ _ (by omega), e1, zUp_s]
    have o18 : g' 18 = upd (G 18) 2 (nI L + 1) := by rw [e2, zUp_s]
    have o7 : g' 7 = upd (G 7) (iN (nI L)) ct := by rw [e2, zUp_n _ _ (by omega), zUp_n _ _ (by omega), e1, zUp_n _ _ (by omega), zUp_s]
    have o19 : g' 19 = upd (G 19) (iN (nI L)) ct := by
      rw [e2, zUp_n _ _ (by omega), zUp_s, e1, zUp_n _ _ (by omega), zUp_n _ _ (by omega)]
    obtain ⟨h1, h2, h3, h4, h5, -, h7, ⟨x, n, hx, hn, r1, r2, r3, r4⟩, h8, h9⟩ := h
    have E : ∀ r, r < 6 → g' r = G r := fun r hr => o r (by omega) (by omega) (by omega) (by omega)
    have E2 : ∀ r, 10 ≤ r → r ≤ 16 → g' r = G r := fun r a b => o r (by omega) (by omega) (by omega) (by omega)
    refine ⟨?_, ?_, fun r hr => ?_, fun B hB j hj => ?_, ?_, ⟨L + 1, hl, ?_, ?_⟩, ?_, ⟨x, n, hx, hn, ?_, ?_, ?_, fun i hi => ?_⟩, ?_, ?_⟩
    · rw [E 0 (by omega), E2 10 (by omega) (by omega)]; exact h1
    · rw [E 0 (by omega)]; exact h2
    · rw [E r hr]; exact h3 r hr
    · rw [E2 (10 + B) (by omega) (by omega)]; exact h4 B hB j hj
    · rw [E2 15 (by omega) (by omega)]; exact h5
    · rw [o6, zu_s, nI_1]
    · rw [o18, zu_s, nI_1]
    · rw [o7, o19, h7]
    · rw [o6, zu_n _ _ (by omega)]; exact r1
    · rw [o6, zu_n _ _ (by omega)]; exact r2
    · rw [o18, zu_n _ _ (by omega)]; exact r3
    · rw [E2 (11 + i) (by omega) (by omega), E (2 + (x + 4 - n + i) % 4) (by omega)]; exact r4 i hi
    · rw [o6, o18, zu_n _ _ (by omega), zu_n _ _ (by omega)]; exact h8
    · rw [o6, zu_n _ _ (by omega), E 1 (by omega), E2 15 (by omega) (by omega)]; exact h9
  · rw [if_neg q] at e1 e2
    rw [e2, e1]; exact h
