/-! the text: x its characters, L its length, A the place -/
def fSign (x : V) (L A : Nat) : Int32 := if A < L then x A else -1
def fPass (x : V) (L : Nat) : Nat → List Int32 → Bool × Nat
  | A, [] => (true, A)
  | A, c :: cs => if fSign x L A = c then fPass x L (A + 1) cs else (false, A)
def fDigit (x : V) (L A : Nat) : Int32 := if fSign x L A < 48 then -1 else if 57 < fSign x L A then -1 else fSign x L A - 48
def fNumL (x : V) (L : Nat) (hi : Int32) : Nat → Nat → Int32 → Int32 × Nat
  | 0, A, d => (d, A)
  | k + 1, A, d => if A < L then if 0 < d then if fDigit x L A < 0 then (d, A) else if hi < 10 * d + fDigit x L A then (d, A) else fNumL x L hi k (A + 1) (10 * d + fDigit x L A) else (d, A) else (d, A)
def fNum (x : V) (L A : Nat) (lo hi : Int32) : Int32 × Nat :=
  if (fPass x L A [32]).1 = true then
    if fDigit x L (fPass x L A [32]).2 < lo then (-1, (fPass x L A [32]).2) else if hi < fDigit x L (fPass x L A [32]).2 then (-1, (fPass x L A [32]).2)
    else fNumL x L hi (L - ((fPass x L A [32]).2 + 1)) ((fPass x L A [32]).2 + 1) (fDigit x L (fPass x L A [32]).2)
  else (-1, (fPass x L A [32]).2)
def fKey (x : V) (L A : Nat) : Int32 × Nat :=
  if (fPass x L A [107, 101, 121]).1 = true then
    if (fPass x L (fPass x L A [107, 101, 121]).2 [115]).1 = true then (4, (fPass x L (fPass x L A [107, 101, 121]).2 [115]).2) else (0, (fPass x L (fPass x L A [107, 101, 121]).2 [115]).2)
  else (-1, (fPass x L A [107, 101, 121]).2)
def fWd (x : V) (L A : Nat) (cs : List Int32) (w : Int32) : Int32 × Nat := if (fPass x L A cs).1 = true then (w, (fPass x L A cs).2) else (-1, (fPass x L A cs).2)
def fWord (x : V) (L A : Nat) : Int32 × Nat :=
  if fSign x L A = 107 then fKey x L A else if fSign x L A = 115 then fWd x L A [115, 112, 97, 110] 1 else if fSign x L A = 116 then fWd x L A [116, 111, 112] 2
  else if fSign x L A = 114 then fWd x L A [114, 111, 119, 115] 3 else (-1, A)
def fLo (w : Int32) : Int32 := if w = 0 then 0 else if w = 3 then 0 else 1
/-- a line: whether it is one, where it ends, its word, table, number -/
def fLine (x : V) (L A : Nat) : Bool × Nat × Int32 × Int32 × Int32 :=
  if (fWord x L A).1 = -1 then (false, (fWord x L A).2, 0, 0, 0)
  else if (fNum x L (fWord x L A).2 0 3).1 = -1 then (false, (fNum x L (fWord x L A).2 0 3).2, 0, 0, 0)
  else if (fNum x L (fNum x L (fWord x L A).2 0 3).2 (fLo (fWord x L A).1) 9999).1 = -1 then (false, (fNum x L (fNum x L (fWord x L A).2 0 3).2 (fLo (fWord x L A).1) 9999).2, 0, 0, 0)
  else (true, (fNum x L (fNum x L (fWord x L A).2 0 3).2 (fLo (fWord x L A).1) 9999).2, (fWord x L A).1, (fNum x L (fWord x L A).2 0 3).1, (fNum x L (fNum x L (fWord x L A).2 0 3).2 (fLo (fWord x L A).1) 9999).1)
/-- the lines from a place on, and the fault -/
def fRd (x : V) (L : Nat) : Nat → Nat → List (Int32 × Int32 × Int32) × Option Nat
  | 0, A => ([], some A)
  | k + 1, A =>
    if (fLine x L A).1 = true then
      if (fLine x L A).2.1 < L then
        if (fPass x L (fLine x L A).2.1 [59]).1 = true then ((fLine x L A).2.2 :: (fRd x L k (fPass x L (fLine x L A).2.1 [59]).2).1, (fRd x L k (fPass x L (fLine x L A).2.1 [59]).2).2)
        else ([(fLine x L A).2.2], some (fPass x L (fLine x L A).2.1 [59]).2)
      else ([(fLine x L A).2.2], none)
    else ([], some (fLine x L A).2.1)
def zCs (i : Nat) : List Int32 := zByt.getD i []
theorem zu_u (v : V) (i : Nat) (x y : Int32) : upd (upd v i x) i y = upd v i y := by funext j; by_cases h : j = i <;> simp [upd, h]
theorem zu_c (v : V) {i j : Nat} (x y : Int32) (h : i ≠ j) : upd (upd v i x) j y = upd (upd v j y) i x := by
  funext q
  by_cases h1 : q = i <;> by_cases h2 : q = j <;> simp [upd, h1, h2] <;> omega
theorem zu_id {v : V} {i : Nat} {x : Int32} (h : v i = x) : upd v i x = v := by funext j; by_cases h1 : j = i <;> simp [upd, h1, h]
theorem fPass_le {x : V} {L : Nat} : ∀ {cs : List Int32} {A : Nat}, A ≤ (fPass x L A cs).2 ∧ ((fPass x L A cs).2 ≤ A + cs.length)
  | [], A => ⟨Nat.le_refl _, Nat.le_refl _⟩
  | c :: cs, A => by
    unfold fPass
    by_cases h : fSign x L A = c
    · rw [if_pos h]
      have ih := fPass_le (x := x) (L := L) (cs := cs) (A := A + 1)
      simp only [List.length_cons]
      exact ⟨by omega, by omega⟩
    · rw [if_neg h]
      simp only [List.length_cons]
      exact ⟨by omega, by omega⟩
