/-! the text: x its characters, L its length, A the place -/
def zCs (i : Nat) : List Int32 := zByt.getD i []
def fSign (x : V) (L A : Nat) : Int32 := if A < L then x A else -1
def fPass (x : V) (L : Nat) : Nat → List Int32 → Bool × Nat
  | A, [] => (true, A)
  | A, c :: cs => if fSign x L A = c then fPass x L (A + 1) cs else (false, A)
def fDigit (x : V) (L A : Nat) : Int32 := if fSign x L A < 48 then -1 else if 57 < fSign x L A then -1 else fSign x L A - 48
def fNumL (x : V) (L : Nat) (hi : Int32) : Nat → Nat → Int32 → Int32 × Nat
  | 0, A, d => (d, A)
  | k + 1, A, d => if A < L then if 0 < d then if fDigit x L A < 0 then (d, A) else if hi < 10 * d + fDigit x L A then (d, A) else fNumL x L hi k (A + 1) (10 * d + fDigit x L A) else (d, A) else (d, A)
def fNum (x : V) (L A : Nat) (lo hi : Int32) : Int32 × Nat :=
  if (fPass x L A (zCs 5)).1 = true then
    if fDigit x L (fPass x L A (zCs 5)).2 < lo then (-1, (fPass x L A (zCs 5)).2) else if hi < fDigit x L (fPass x L A (zCs 5)).2 then (-1, (fPass x L A (zCs 5)).2)
    else fNumL x L hi (L - ((fPass x L A (zCs 5)).2 + 1)) ((fPass x L A (zCs 5)).2 + 1) (fDigit x L (fPass x L A (zCs 5)).2)
  else (-1, (fPass x L A (zCs 5)).2)
def fKey (x : V) (L A : Nat) : Int32 × Nat :=
  if (fPass x L A (zCs 0)).1 = true then
    if (fPass x L (fPass x L A (zCs 0)).2 (zCs 1)).1 = true then (4, (fPass x L (fPass x L A (zCs 0)).2 (zCs 1)).2) else (0, (fPass x L (fPass x L A (zCs 0)).2 (zCs 1)).2)
  else (-1, (fPass x L A (zCs 0)).2)
def fWd (x : V) (L A : Nat) (cs : List Int32) (w : Int32) : Int32 × Nat := if (fPass x L A cs).1 = true then (w, (fPass x L A cs).2) else (-1, (fPass x L A cs).2)
def fWord (x : V) (L A : Nat) : Int32 × Nat :=
  if fSign x L A = 107 then fKey x L A else if fSign x L A = 115 then fWd x L A (zCs 2) 1 else if fSign x L A = 116 then fWd x L A (zCs 3) 2
  else if fSign x L A = 114 then fWd x L A (zCs 4) 3 else (-1, A)
def fLo (w : Int32) : Int32 := if w = 0 then 0 else if w = 3 then 0 else 1
/-- a line: whether it is one, where it ends, its word, table, number -/
def fLine (x : V) (L A : Nat) : Bool × Nat × Int32 × Int32 × Int32 :=
  if (fWord x L A).1 = -1 then (false, (fWord x L A).2, 0, 0, 0)
  else if (fNum x L (fWord x L A).2 0 3).1 = -1 then (false, (fNum x L (fWord x L A).2 0 3).2, 0, 0, 0)
  else if (fNum x L (fNum x L (fWord x L A).2 0 3).2 (fLo (fWord x L A).1) 9999).1 = -1 then (false, (fNum x L (fNum x L (fWord x L A).2 0 3).2 (fLo (fWord x L A).1) 9999).2, 0, 0, 0)
  else (true, (fNum x L (fNum x L (fWord x L A).2 0 3).2 (fLo (fWord x L A).1) 9999).2, (fWord x L A).1, (fNum x L (fWord x L A).2 0 3).1, (fNum x L (fNum x L (fWord x L A).2 0 3).2 (fLo (fWord x L A).1) 9999).1)
/-- the lines from a place on, and the fault -/
def fRd (x : V) (L : Nat) : Nat → Nat → List (Int32 × Int32 × Int32) × Option Nat
  | 0, A => ([], some A)
  | k + 1, A =>
    if (fLine x L A).1 = true then
      if (fLine x L A).2.1 < L then
        if (fPass x L (fLine x L A).2.1 (zCs 6)).1 = true then ((fLine x L A).2.2 :: (fRd x L k (fPass x L (fLine x L A).2.1 (zCs 6)).2).1, (fRd x L k (fPass x L (fLine x L A).2.1 (zCs 6)).2).2)
        else ([(fLine x L A).2.2], some (fPass x L (fLine x L A).2.1 (zCs 6)).2)
      else ([(fLine x L A).2.2], none)
    else ([], some (fLine x L A).2.1)
theorem zu_u (v : V) (i : Nat) (x y : Int32) : upd (upd v i x) i y = upd v i y := by funext j; by_cases h : j = i <;> simp [upd, h]
theorem zu_c (v : V) {i j : Nat} (x y : Int32) (h : i ≠ j) : upd (upd v i x) j y = upd (upd v j y) i x := by
  funext q
  by_cases h1 : q = i <;> by_cases h2 : q = j <;> simp [upd, h1, h2] <;> omega
theorem zu_id {v : V} {i : Nat} {x : Int32} (h : v i = x) : upd v i x = v := by funext j; by_cases h1 : j = i <;> simp [upd, h1, h]
theorem fSign_lt {x : V} {L A : Nat} (h : ¬ fSign x L A = -1) : A < L := by
  unfold fSign at h
  by_cases q : A < L
  · exact q
  · rw [if_neg q] at h; exact absurd rfl h
theorem fDigit_lt {x : V} {L A : Nat} (h : ¬ fDigit x L A < 0) : A < L := by
  refine fSign_lt (x := x) (fun q => h ?_)
  unfold fDigit
  rw [q]
  decide
theorem fPass_b {x : V} {L : Nat} : ∀ {cs : List Int32} {A : Nat}, (∀ c, c ∈ cs → ¬ c = -1) → A ≤ L → A ≤ (fPass x L A cs).2 ∧ (fPass x L A cs).2 ≤ L
  | [], A, _, hA => ⟨Nat.le_refl _, hA⟩
  | c :: cs, A, hc, hA => by
    unfold fPass
    by_cases h : fSign x L A = c
    · rw [if_pos h]
      have h1 : A < L := fSign_lt (x := x) (by rw [h]; exact hc c List.mem_cons_self)
      have ih := fPass_b (x := x) (L := L) (cs := cs) (A := A + 1) (fun d hd => hc d (List.mem_cons_of_mem _ hd)) h1
      exact ⟨by omega, ih.2⟩
    · rw [if_neg h]
      exact ⟨Nat.le_refl _, hA⟩
theorem zCs_ne : ∀ i, i < 7 → ∀ c, c ∈ zCs i → ¬ c = -1 := by decide +kernel
theorem fPass_z {x : V} {L A : Nat} (i : Nat) (hi : i < 7) (hA : A ≤ L) : A ≤ (fPass x L A (zCs i)).2 ∧ (fPass x L A (zCs i)).2 ≤ L := fPass_b (zCs_ne i hi) hA
theorem fNumL_b {x : V} {L : Nat} {hi : Int32} : ∀ (k A : Nat) (d : Int32), A ≤ L → A ≤ (fNumL x L hi k A d).2 ∧ (fNumL x L hi k A d).2 ≤ L
  | 0, A, d, hA => ⟨Nat.le_refl _, hA⟩
  | k + 1, A, d, hA => by
    unfold fNumL
    by_cases h1 : A < L
    · rw [if_pos h1]
      by_cases h2 : 0 < d
      · rw [if_pos h2]
        by_cases h3 : fDigit x L A < 0
        · rw [if_pos h3]; exact ⟨Nat.le_refl _, hA⟩
        · rw [if_neg h3]
          by_cases h4 : hi < 10 * d + fDigit x L A
          · rw [if_pos h4]; exact ⟨Nat.le_refl _, hA⟩
          · rw [if_neg h4]
            have ih := fNumL_b (x := x) (L := L) (hi := hi) k (A + 1) (10 * d + fDigit x L A) h1
            exact ⟨by omega, ih.2⟩
      · rw [if_neg h2]; exact ⟨Nat.le_refl _, hA⟩
    · rw [if_neg h1]; exact ⟨Nat.le_refl _, hA⟩
theorem z01 {lo d : Int32} (h : lo = 0 ∨ lo = 1) (hd : ¬ d < lo) : ¬ d < 0 := by
  rcases h with rfl | rfl
  · exact hd
  · intro q
    apply hd
    have h1 := Int32.lt_iff_toInt_lt.mp q
    apply Int32.lt_iff_toInt_lt.mpr
    have e1 : (1 : Int32).toInt = 1 := by decide
    have e0 : (0 : Int32).toInt = 0 := by decide
    omega
theorem fNum_b {x : V} {L A : Nat} {lo hi : Int32} (hlo : lo = 0 ∨ lo = 1) (hA : A ≤ L) : A ≤ (fNum x L A lo hi).2 ∧ (fNum x L A lo hi).2 ≤ L := by
  have hp := fPass_z (x := x) 5 (by decide) hA
  unfold fNum
  by_cases h1 : (fPass x L A (zCs 5)).1 = true
  · rw [if_pos h1]
    by_cases h2 : fDigit x L (fPass x L A (zCs 5)).2 < lo
    · rw [if_pos h2]; exact hp
    · rw [if_neg h2]
      by_cases h3 : hi < fDigit x L (fPass x L A (zCs 5)).2
      · rw [if_pos h3]; exact hp
      · rw [if_neg h3]
        have h4 := fDigit_lt (z01 hlo h2)
        have h5 := fNumL_b (x := x) (L := L) (hi := hi) (L - ((fPass x L A (zCs 5)).2 + 1)) ((fPass x L A (zCs 5)).2 + 1) (fDigit x L (fPass x L A (zCs 5)).2) h4
        exact ⟨by omega, h5.2⟩
  · rw [if_neg h1]; exact hp
theorem fKey_b {x : V} {L A : Nat} (hA : A ≤ L) : A ≤ (fKey x L A).2 ∧ (fKey x L A).2 ≤ L := by
  have hp := fPass_z (x := x) 0 (by decide) hA
  have hq := fPass_z (x := x) 1 (by decide) hp.2
  unfold fKey
  by_cases h1 : (fPass x L A (zCs 0)).1 = true
  · rw [if_pos h1]
    by_cases h2 : (fPass x L (fPass x L A (zCs 0)).2 (zCs 1)).1 = true
    · rw [if_pos h2]; exact ⟨by omega, hq.2⟩
    · rw [if_neg h2]; exact ⟨by omega, hq.2⟩
  · rw [if_neg h1]; exact hp
theorem fWd_b {x : V} {L A : Nat} {w : Int32} (i : Nat) (hi : i < 7) (hA : A ≤ L) : A ≤ (fWd x L A (zCs i) w).2 ∧ (fWd x L A (zCs i) w).2 ≤ L := by
  have hp := fPass_z (x := x) i hi hA
  unfold fWd
  by_cases h1 : (fPass x L A (zCs i)).1 = true
  · rw [if_pos h1]; exact hp
  · rw [if_neg h1]; exact hp
theorem fWord_b {x : V} {L A : Nat} (hA : A ≤ L) : A ≤ (fWord x L A).2 ∧ (fWord x L A).2 ≤ L := by
  unfold fWord
  by_cases h1 : fSign x L A = 107
  · rw [if_pos h1]; exact fKey_b hA
  · rw [if_neg h1]
    by_cases h2 : fSign x L A = 115
    · rw [if_pos h2]; exact fWd_b 2 (by decide) hA
    · rw [if_neg h2]
      by_cases h3 : fSign x L A = 116
      · rw [if_pos h3]; exact fWd_b 3 (by decide) hA
      · rw [if_neg h3]
        by_cases h4 : fSign x L A = 114
        · rw [if_pos h4]; exact fWd_b 4 (by decide) hA
        · rw [if_neg h4]; exact ⟨Nat.le_refl _, hA⟩
theorem fLo_01 (w : Int32) : fLo w = 0 ∨ fLo w = 1 := by
  unfold fLo
  by_cases h1 : w = 0
  · rw [if_pos h1]; exact Or.inl rfl
  · rw [if_neg h1]
    by_cases h2 : w = 3
    · rw [if_pos h2]; exact Or.inl rfl
    · rw [if_neg h2]; exact Or.inr rfl
theorem fLine_b {x : V} {L A : Nat} (hA : A ≤ L) : A ≤ (fLine x L A).2.1 ∧ (fLine x L A).2.1 ≤ L := by
  have h1 := fWord_b (x := x) hA
  have h2 := fNum_b (x := x) (lo := 0) (hi := 3) (Or.inl rfl) h1.2
  have h3 := fNum_b (x := x) (lo := fLo (fWord x L A).1) (hi := 9999) (fLo_01 _) h2.2
  unfold fLine
  by_cases q1 : (fWord x L A).1 = -1
  · rw [if_pos q1]; exact h1
  · rw [if_neg q1]
    by_cases q2 : (fNum x L (fWord x L A).2 0 3).1 = -1
    · rw [if_pos q2]; exact ⟨Nat.le_trans h1.1 h2.1, h2.2⟩
    · rw [if_neg q2]
      by_cases q3 : (fNum x L (fNum x L (fWord x L A).2 0 3).2 (fLo (fWord x L A).1) 9999).1 = -1
      · rw [if_pos q3]; exact ⟨Nat.le_trans h1.1 (Nat.le_trans h2.1 h3.1), h3.2⟩
      · rw [if_neg q3]; exact ⟨Nat.le_trans h1.1 (Nat.le_trans h2.1 h3.1), h3.2⟩
theorem zCs_d : ∀ si, si < 7 → ∀ i, i < zLen.getD si 0 → (zCs si).drop i = (zByt.getD si []).getD i 0 :: (zCs si).drop (i + 1) := by decide +kernel
theorem zCs_e : ∀ si, si < 7 → (zCs si).drop (zLen.getD si 0) = [] := by decide +kernel
theorem zCh_ne : ∀ si, si < 7 → ∀ i, i < zLen.getD si 0 → ¬ (zByt.getD si []).getD i 0 = -1 := by decide +kernel
/-- the lines of a text done one after the other -/
def fRun : List (Int32 × Int32 × Int32) → Int32 → V → Int32 × V
  | [], x, v => (x, v)
  | q :: ls, x, v =>
    if q.1 = 3 then fRun ls x (fResize v (iN q.2.1) 0 q.2.2)
    else if q.1 = 4 then fRun ls x (fResize v (iN q.2.1) 1 q.2.2)
    else fRun ls (x + (fAsk v (3 * iN q.2.1 + iN q.1) q.2.2).1) (fAsk v (3 * iN q.2.1 + iN q.1) q.2.2).2
def kAll (x : V) (L : Nat) (v : V) : Int32 × Option V := match (fRd x L 11 0).2 with
  | some f => (-100 - nI f, none)
  | none => ((fRun (fRd x L 11 0).1 0 v).1, some (fRun (fRd x L 11 0).1 0 v).2)
/-- what stands behind read() -/
def zRead (g : Mem) (u : V) (L : Nat) (r : Int32) (g' : Mem) : Prop := ∃ u1 w1 t1 n1 : V, g' = zT g u1 w1 t1 n1 ∧ (∀ j, j ≠ 3 → j ≠ 4 → u1 j = u j) ∧
  ((fRd (g 7) L 11 0).2 = none → r = -4 ∧ u1 3 = nI (fRd (g 7) L 11 0).1.length ∧ ∀ i, i < (fRd (g 7) L 11 0).1.length → (fRd (g 7) L 11 0).1[i]? = some (w1 i, t1 i, n1 i)) ∧
  ∀ f, (fRd (g 7) L 11 0).2 = some f → r = nI f ∧ f ≤ L
theorem zRecX_o (g : Mem) {x r : Nat} (h1 : r ≠ 6) (h2 : r ≠ 2 + x) : zRecX g x r = g r := by
  unfold zRecX
  rw [zUp_n _ _ h1, zUp_n _ _ h2]
theorem zRecX_6 (g : Mem) (x : Nat) {j : Nat} (h0 : j ≠ 0) (h1 : j ≠ 1) : zRecX g x 6 j = g 6 j := by
  unfold zRecX
  rw [zUp_s, zu_n _ _ h1, zu_n _ _ h0]
/-- what a line may hold -/
def okL (q : Int32 × Int32 × Int32) : Prop := (∃ W, W < 5 ∧ q.1 = nI W) ∧ (∃ T, T < 4 ∧ q.2.1 = nI T) ∧ ¬ q.2.2 < fLo q.1 ∧ ¬ 9999 < q.2.2
