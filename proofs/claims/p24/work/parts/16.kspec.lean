/-! the public methods: what each answers of the state's row, and the row behind an act (none: nothing is recorded) -/
abbrev okT (x : Int32) : Prop := ¬ x < 0 ∧ x < 4
abbrev okS (x : Int32) : Prop := ¬ x < 0 ∧ x < 12
abbrev okW (x : Int32) : Prop := ¬ x < 0 ∧ x < 3
abbrev okN (z : Nat) (n : Int32) : Prop := ¬ n < (if z % 3 = 0 then 0 else 1) ∧ ¬ 9999 < n
abbrev iN (x : Int32) : Nat := x.toNatClampNeg
abbrev hasP (v : V) (x : Int32) : Prop := okS x ∧ ¬ v (13 + 11 * iN x + 0) = 0
def kTable (v : V) (q x many : Int32) : Int32 × Option V :=
  if okT q then
    if many < (if x = 0 then 0 else 1) then (-2, none) else if 9999 < many then (-2, none)
    else if (if x = 0 then v (iN q) else v (4 + iN q)) = many then (-4, none)
    else (if x = 0 then v (iN q) else v (4 + iN q), some (fResize v (iN q) x many))
  else (-1, none)
def kAsk (v : V) (x n : Int32) : Int32 × Option V :=
  if okS x then if okN (iN x) n then ((fAsk v (iN x) n).1, some (fAsk v (iN x) n).2) else (-2, none) else (-1, none)
def kPin (v : V) (x b : Int32) : Int32 × Option V :=
  if hasP v x then if v (13 + 11 * iN x + 8) = b then (-4, none) else (fP (upd v (13 + 11 * iN x + 8) b) 12, some (upd v (13 + 11 * iN x + 8) b)) else (-1, none)
def kThrow (v : V) (x : Int32) : Int32 × Option V :=
  if hasP v x then (fK (upd v (13 + 11 * iN x + 0) 0) 12, some (upd v (13 + 11 * iN x + 0) 0)) else (-1, none)
def kMakeV (v : V) (x w n lo hi : Int32) : V := fPlace (fRoom v (iN x)) (iN x) w n lo hi
def kMake (v : V) (x w n lo hi : Int32) : Int32 × Option V :=
  if okS x then
    if okW w then
      if okN (iN x) n then
        if lo < 0 then (-2, none) else if 9999 < lo then (-2, none) else if hi < lo then (-2, none) else if 99999 < hi then (-2, none)
        else if fCould v (iN x) = true then (fK (kMakeV v x w n lo hi) 12, some (kMakeV v x w n lo hi)) else (-4, none)
      else (-2, none)
    else (-2, none)
  else (-1, none)
def kSet (v : V) (i x : Int32) : Int32 × Option V :=
  if i < 0 then (-1, none) else if ¬ i < 5 then (-1, none)
  else if x < zLe (iN i) then (-2, none) else if zMo (iN i) < x then (-2, none)
  else if v (8 + iN i) = x then (-4, none)
  else (v (8 + iN i), some (if iN i = 3 then fDown (upd v (8 + iN i) x) x else upd v (8 + iN i) x))
def kCost (v : V) (x w n : Int32) : Int32 := if okS x then if okW w then if okN (iN x) n then fCost v (iN x) w n else -2 else -2 else -1
def kCheap (v : V) (x n : Int32) : Int32 := if okS x then if okN (iN x) n then fBest v (iN x) n else -2 else -1
def kReason (v : V) (x n : Int32) : Int32 := if okS x then if okN (iN x) n then fWhy v (iN x) n else -2 else -1
def kPlan (v : V) (x w : Int32) : Int32 :=
  if hasP v x then
    if w = 0 then v (13 + 11 * iN x + 1) else if w = 1 then v (13 + 11 * iN x + 2) else if w = 2 then v (13 + 11 * iN x + 3)
    else if w = 3 then v (13 + 11 * iN x + 4) else if w = 4 then v (13 + 11 * iN x + 5) else if w = 5 then v 145 - v (13 + 11 * iN x + 6)
    else if w = 6 then (if fChanged v (iN x) = true ∨ fOld v (iN x) = true then 1 else 0) else if w = 7 then v (13 + 11 * iN x + 8)
    else if w = 8 then v (13 + 11 * iN x + 9) else if w = 9 then v 145 - v (13 + 11 * iN x + 7) else if w = 10 then v (13 + 11 * iN x + 10) else -2
  else -1
/-- what a question would do -/
def fIf (v : V) (z : Nat) (n w : Int32) : Int32 :=
  if fWhy v z n = 0 then
    (if w = 0 then fCost v z (v (13 + 11 * z + 1)) n + 0 else if w = 1 then v (13 + 11 * z + 1) else if w = 2 then (if fDear v z (fCost v z (v (13 + 11 * z + 1)) n) = true then 1 else 0)
     else if w = 3 then -4 else fCost v z (v (13 + 11 * z + 1)) n + 0 - fCost v z (fBest v z n) n)
  else
    (if w = 0 then fCost v z (fBest v z n) n + v 8 else if w = 1 then fBest v z n else if w = 2 then 0 else if w = 3 then fFirst v z
     else fCost v z (fBest v z n) n + v 8 - fCost v z (fBest v z n) n)
def kIf (v : V) (x n w : Int32) : Int32 := if okS x then if okN (iN x) n then if w < 0 then -2 else if 4 < w then -2 else fIf v (iN x) n w else -2 else -1
/-- how many of the numbers from lo on, n of them, have the way w -/
def fReach (v : V) (z : Nat) (w : Int32) (lo : Nat) : Nat → Int32
  | 0 => 0
  | n + 1 => if fBest v z (nI (lo + n)) = w then fReach v z w lo n + 1 else fReach v z w lo n
def kReach (v : V) (x w : Int32) : Int32 := if okS x then if okW w then (if iN x % 3 = 0 then fReach v (iN x) w 0 201 else fReach v (iN x) w 1 200) else -2 else -1
def kTableOf (v : V) (q w : Int32) : Int32 :=
  if okT q then
    if w = 0 then v (iN q) else if w = 1 then v (4 + iN q) else if w = 2 then fKo v (iN q) 3 else if w = 3 then v (152 + iN q) else if w = 4 then v (156 + iN q) else -2
  else -1
def kCount (v : V) (states typed w : Int32) : Int32 :=
  if w = 0 then fK v 12 else if w = 1 then fP v 12 else if w = 2 then fS v 12 else if w = 3 then v 145 else if w = 4 then v 146 else if w = 5 then v 147 else if w = 6 then v 148
  else if w = 7 then v 149 else if w = 8 then v 150 else if w = 9 then v 151 else if w = 10 then v 8 else if w = 11 then v 9 else if w = 12 then v 10 else if w = 13 then v 11
  else if w = 14 then v 12 else if w = 15 then states else if w = 16 then typed else -2
/-- an act on the class's side -/
def zAct (g : Mem) (o : Option V) : Mem := match o with
  | none => g
  | some v => zUp (zRec g) 0 v
theorem iNn {n : Nat} (h : n < 2 ^ 31) : iN (nI n) = n := nI_clamp h
theorem zIx {x : Int32} {B : Nat} {b : Int32} (hb : b = nI B) (hB : B < 2 ^ 31) (h : ¬ x < 0 ∧ x < b) : ∃ z, z < B ∧ x = nI z := by
  obtain ⟨j, hj, rfl⟩ := nI_of h.1
  subst hb
  exact ⟨j, (nI_ltI hj hB).mp h.2, rfl⟩
theorem zRec_x {g : Mem} {x : Nat} (hx : x < 4) (e : g 6 0 = nI x) : zRec g = zRecX g x := by
  unfold zRec
  rw [e, nI_clamp (by omega)]
theorem zBack_x {g : Mem} {x : Nat} (hx : x < 4) (e : g 6 0 = nI x) : zBack g = zBackX g x := by
  unfold zBack
  rw [e, nI_clamp (by omega)]
theorem zRecX_0 (g : Mem) (x : Nat) : zRecX g x 0 = g 0 := by
  unfold zRecX
  rw [zUp_n _ _ (by omega), zUp_n _ _ (by omega)]
theorem zNow {G : Mem} {v : V} (h : G 0 = v) : zUp G 0 v = G := by rw [← h, zUp_id]
def kType (g : Mem) (ch : Int32) : Int32 := if g 6 2 < 80 then g 6 2 + 1 else -3
def kTypeG (g : Mem) (ch : Int32) : Mem := if g 6 2 < 80 then zUp (zUp g 7 (upd (g 7) (iN (g 6 2)) ch)) 6 (upd (g 6) 2 (g 6 2 + 1)) else g
def kClearG (g : Mem) : Mem := zUp g 6 (upd (g 6) 2 0)
def kUndo (g : Mem) : Int32 := if g 6 1 = 0 then -4 else g 6 1 - 1
def kUndoG (g : Mem) : Mem := if g 6 1 = 0 then g else zBack g
def kKeepG (g : Mem) : Mem := zUp (zUp g 1 (g 0)) 6 (upd (g 6) 5 1)
def kRest (g : Mem) : Int32 := if g 6 5 = 0 then -4 else fK (g 1) 12
def kRestG (g : Mem) : Mem := if g 6 5 = 0 then g else zUp (zRec g) 0 (g 1)
