/-! what each method answers and leaves, of the state's row v: slots 0.. rows, 4.. keys, 8.. settings, 13 + 11 s + f the plan of shape s, 145.. accounts -/
abbrev V := Nat → Int32
def zBl (n : Nat) : Nat := if n = 0 then 0 else n.log2 + 1
def fBits (x : Int32) : Int32 := if 0 < x then nI (zBl x.toNatClampNeg) else 0
def fQuo (x y : Int32) : Int32 := if y < 1 then 0 else x / y
def fMet (v : V) (s : Nat) (n : Int32) : Int32 := if s % 3 = 1 then (if v (s / 3) < fQuo (v (s / 3) * n + v (4 + s / 3) - 1) (v (4 + s / 3)) then v (s / 3) else fQuo (v (s / 3) * n + v (4 + s / 3) - 1) (v (4 + s / 3))) else n
def fRaw (v : V) (s : Nat) (w n : Int32) : Int32 :=
  if w = 0 then (if s % 3 = 2 then v (s / 3) + n * fBits n else v (s / 3))
  else if w = 1 then fBits (v (s / 3)) + fMet v s n * (if s % 3 = 2 then 1 else 3)
  else if s % 3 = 2 then v (s / 3) + n * fBits (v (s / 3)) else 2 * v (s / 3)
def fCost (v : V) (s : Nat) (w n : Int32) : Int32 := if 1000000 < fRaw v s w n then 1000000 else fRaw v s w n
def fB1 (v : V) (s : Nat) (n : Int32) : Int32 := if fCost v s 1 n < fCost v s 0 n then 1 else 0
def fBest (v : V) (s : Nat) (n : Int32) : Int32 := if fCost v s 2 n < fCost v s (fB1 v s n) n then 2 else fB1 v s n
def fAbs (x : Int32) : Int32 := if 0 ≤ x then x else 0 - x
def fChanged (v : V) (s : Nat) : Bool := decide (v (13 + 11 * s + 10) / 2 < fAbs (v (s / 3) - v (13 + 11 * s + 10)))
def fOld (v : V) (s : Nat) : Bool := decide (v 10 < v 145 - v (13 + 11 * s + 6))
def fDear (v : V) (s : Nat) (x : Int32) : Bool := decide (v 12 * v (13 + 11 * s + 5) < x)
def fWhy (v : V) (s : Nat) (n : Int32) : Int32 := if v (13 + 11 * s + 0) = 0 then 1 else if n < v (13 + 11 * s + 2) then 2 else if v (13 + 11 * s + 3) < n then 3 else if fChanged v s = true then 4 else if fOld v s = true then 5 else 0
/-- how many of the shapes below n are kept; pinned; stale -/
def fK (v : V) : Nat → Int32
  | 0 => 0
  | n + 1 => if v (13 + 11 * n + 0) = 0 then fK v n else fK v n + 1
def fP (v : V) : Nat → Int32
  | 0 => 0
  | n + 1 => if v (13 + 11 * n + 0) = 0 then fP v n else if v (13 + 11 * n + 8) = 0 then fP v n else fP v n + 1
def fS (v : V) : Nat → Int32
  | 0 => 0
  | n + 1 => if v (13 + 11 * n + 0) = 0 then fS v n else if fChanged v n = true ∨ fOld v n = true then fS v n + 1 else fS v n
def fKo (v : V) (t : Nat) : Nat → Int32
  | 0 => 0
  | n + 1 => if v (13 + 11 * (3 * t + n) + 0) = 0 then fKo v t n else fKo v t n + 1
/-- the oldest plan below n that isn't pinned: its shape (or -4), when it was used -/
def fO (v : V) : Nat → Int32 × Int32
  | 0 => (-4, 0)
  | n + 1 => if v (13 + 11 * n + 0) = 0 then fO v n else if v (13 + 11 * n + 8) = 0 then (if (fO v n).1 = -4 ∨ v (13 + 11 * n + 7) < (fO v n).2 then (nI n, v (13 + 11 * n + 7)) else fO v n) else fO v n
def fOldest (v : V) : Int32 := (fO v 12).1
def fKill (v : V) (s : Nat) : V := upd (upd v (13 + 11 * s + 0) 0) 151 (v 151 + 1)
def fCrowd : Nat → V → V
  | 0, v => v
  | n + 1, v => if fOldest v < 0 then v else fCrowd n (fKill v (fOldest v).toNatClampNeg)
def fDown (v : V) (most : Int32) : V := fCrowd (fK v 12 - most).toNatClampNeg v
def fLacks (v : V) (s : Nat) : Bool := decide (v (13 + 11 * s + 0) = 0 ∧ ¬ fK v 12 < v 11)
def fCould (v : V) (s : Nat) : Bool := decide (¬ v (13 + 11 * s + 0) = 0 ∨ fP v 12 < v 11)
def fRoom (v : V) (s : Nat) : V := if fLacks v s = true then fDown v (v 11 - 1) else v
def fFirst (v : V) (s : Nat) : Int32 := if fLacks v s = true then fOldest v else -4
/-- a plan is laid: in the order of the class's writes -/
def fPlace (v : V) (s : Nat) (w n least most : Int32) : V :=
  upd (upd (upd (upd (upd (upd (upd (upd (upd (upd (upd v (13 + 11 * s + 0) 1) (13 + 11 * s + 8) 0) (13 + 11 * s + 1) w) (13 + 11 * s + 2) least) (13 + 11 * s + 3) most) (13 + 11 * s + 4) n) (13 + 11 * s + 5) (fCost v s w n)) (13 + 11 * s + 10) (v (s / 3))) (13 + 11 * s + 9) 0) (13 + 11 * s + 6) (v 145)) (13 + 11 * s + 7) (v 145)
/-- a hit: its cost, what it leaves (the questions are counted ahead) -/
def fHitV (v : V) (s : Nat) : V := upd (upd (upd v 146 (v 146 + 1)) (13 + 11 * s + 9) (v (13 + 11 * s + 9) + 1)) (13 + 11 * s + 7) (v 145)
def fHit (v : V) (s : Nat) (n : Int32) : Int32 × V :=
  (fCost v s (v (13 + 11 * s + 1)) n, if fDear (fHitV v s) s (fCost v s (v (13 + 11 * s + 1)) n) = true then upd (upd (fHitV v s) (13 + 11 * s + 0) 0) 150 (v 150 + 1) else fHitV v s)
def fMissA (v : V) (s : Nat) : V := fRoom (upd (upd v 147 (v 147 + 1)) 149 (v 149 + v 8)) s
def fMissV (v : V) (s : Nat) (n : Int32) : V := if fCould (fMissA v s) s = true then fPlace (fMissA v s) s (fBest v s n) n (fQuo n (v 9)) (n * v 9) else fMissA v s
def fMiss (v : V) (s : Nat) (n : Int32) : Int32 × V := (fCost v s (fBest v s n) n + v 8, fMissV v s n)
/-- a question -/
def fAskQ (v : V) (s : Nat) (q : Int32 × V) : Int32 × V := (q.1, upd (upd (upd q.2 148 (q.2 148 + q.1)) (152 + s / 3) (q.2 (152 + s / 3) + 1)) (156 + s / 3) (q.2 (156 + s / 3) + q.1))
def fAsk (v : V) (s : Nat) (n : Int32) : Int32 × V := fAskQ v s (if fWhy v s n = 0 then fHit (upd v 145 (v 145 + 1)) s n else fMiss (upd v 145 (v 145 + 1)) s n)
def fResize (v : V) (q : Nat) (x many : Int32) : V := if x = 0 then upd v q many else upd v (4 + q) many
/-- one row copied over another, as the class does it -/
def cpT (v w : V) (t : Nat) : V := upd (upd (upd (upd v t (w t)) (4 + t) (w (4 + t))) (152 + t) (w (152 + t))) (156 + t) (w (156 + t))
def cpP (v w : V) (t : Nat) : V := upd (upd (upd (upd (upd (upd (upd (upd (upd (upd (upd v (13 + 11 * t + 0) (w (13 + 11 * t + 0))) (13 + 11 * t + 8) (w (13 + 11 * t + 8))) (13 + 11 * t + 1) (w (13 + 11 * t + 1))) (13 + 11 * t + 2) (w (13 + 11 * t + 2))) (13 + 11 * t + 3) (w (13 + 11 * t + 3))) (13 + 11 * t + 4) (w (13 + 11 * t + 4))) (13 + 11 * t + 5) (w (13 + 11 * t + 5))) (13 + 11 * t + 10) (w (13 + 11 * t + 10))) (13 + 11 * t + 9) (w (13 + 11 * t + 9))) (13 + 11 * t + 6) (w (13 + 11 * t + 6))) (13 + 11 * t + 7) (w (13 + 11 * t + 7))
def cpTs (v w : V) : Nat → V
  | 0 => v
  | n + 1 => cpT (cpTs v w n) w n
def cpPs (v w : V) : Nat → V
  | 0 => v
  | n + 1 => cpP (cpPs v w n) w n
def cpSs (v w : V) : Nat → V
  | 0 => v
  | n + 1 => upd (cpSs v w n) (8 + n) (w (8 + n))
def cpAll (v w : V) : V := upd (upd (upd (upd (upd (upd (upd (cpSs (cpPs (cpTs v w 4) w 12) w 5) 145 (w 145)) 146 (w 146)) 147 (w 147)) 148 (w 148)) 149 (w 149)) 150 (w 150)) 151 (w 151)
/-- the flags of a row are 0 or 1 -/
def zFl (w : V) : Prop := ∀ t, t < 12 → (w (13 + 11 * t + 0) = 0 ∨ w (13 + 11 * t + 0) = 1) ∧ (w (13 + 11 * t + 8) = 0 ∨ w (13 + 11 * t + 8) = 1)
/-- the class's history: the state now is written at the place x; the latest comes back -/
def zRecX (g : Mem) (x : Nat) : Mem := zUp (zUp g (2 + x) (g 0)) 6 (upd (upd (g 6) 0 (nI ((x + 1) % 4))) 1 (if 4 < g 6 1 + 1 then 4 else g 6 1 + 1))
def zRec (g : Mem) : Mem := zRecX g (g 6 0).toNatClampNeg
def zBackX (g : Mem) (x : Nat) : Mem := zUp (zUp g 6 (upd (upd (g 6) 0 (nI ((x + 3) % 4))) 1 (g 6 1 - 1))) 0 (g (2 + (x + 3) % 4))
def zBack (g : Mem) : Mem := zBackX g (g 6 0).toNatClampNeg
