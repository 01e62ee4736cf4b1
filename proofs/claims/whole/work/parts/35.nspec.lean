/-- the numbers of the model's rows past 160 are zero -/
def zJk (g : Mem) : Prop := ∀ B, B < 7 → ∀ j, 160 ≤ j → g (10 + B) j = 0
theorem zJk_up {g : Mem} {r : Nat} {w : V} (h : zJk g) (hw : ∀ j, 160 ≤ j → w j = 0) : zJk (zUp g r w) := by
  intro B hB j hj
  by_cases e : 10 + B = r
  · subst e; rw [zUp_s]; exact hw j hj
  · rw [zUp_n _ _ e]; exact h B hB j hj
theorem zM_out (g : Mem) {T : Nat} (v w u : V) (hT : T < 7) (h : T ≠ 0) : zM (zUp g (10 + 0) v) T w u = zM (zUp g (10 + T) w) 0 v u := by
  unfold zM
  rw [zUp_c g v w (by omega)]
theorem zM_in (g : Mem) {T : Nat} (v u : V) (hT : T < 7) (h : T ≠ 0) : zM (zUp g (10 + 0) v) T (g (10 + T)) u = zM g 0 v u := by
  rw [zM_out g _ _ _ hT h, zUp_id]
/-- what records() leaves -/
def mRecG (g : Mem) (v : V) (n : Nat) : Mem := if n = 4 then zUp (zUp (zUp (zUp g (10 + 1) (g (10 + 2))) (10 + 2) (g (10 + 3))) (10 + 3) (g (10 + 4))) (10 + 4) v else zUp g (10 + (n + 1)) v
def mRecU (u : V) (n : Nat) : V := upd u 0 (if n = 4 then 4 else nI (n + 1))
theorem zJk_rec {g : Mem} {v : V} {n : Nat} (hn : n ≤ 4) (h : zJk g) (hv : ∀ j, 160 ≤ j → v j = 0) : zJk (mRecG g v n) := by
  unfold mRecG
  split
  · exact zJk_up (zJk_up (zJk_up (zJk_up h (h 2 (by omega))) (h 3 (by omega))) (h 4 (by omega))) hv
  · exact zJk_up h hv
theorem mRecG_o {g : Mem} {v : V} {n r : Nat} (hn : n ≤ 4) (h : r < 11 ∨ 14 < r) : mRecG g v n r = g r := by
  unfold mRecG
  split
  · rw [zUp_n _ _ (by omega), zUp_n _ _ (by omega), zUp_n _ _ (by omega), zUp_n _ _ (by omega)]
  · rw [zUp_n _ _ (by omega)]
theorem mRecG_up {g : Mem} {v w : V} {n r : Nat} (hn : n ≤ 4) (h : r < 11 ∨ 14 < r) : mRecG (zUp g r w) v n = zUp (mRecG g v n) r w := by
  unfold mRecG
  split
  · rw [zUp_n _ _ (by omega), zUp_n _ _ (by omega), zUp_n _ _ (by omega), zUp_c g w _ (by omega), zUp_c _ w _ (by omega), zUp_c _ w _ (by omega), zUp_c _ w _ (by omega)]
  · rw [zUp_c g w _ (by omega)]
/-- an act on the model's side -/
def mActG (g : Mem) (v : V) (n : Nat) : Option V → Mem
  | none => g
  | some _ => mRecG g v n
def mActU (u : V) (n : Nat) : Option V → V
  | none => u
  | some _ => mRecU u n
def zPo (g : Mem) (v u : V) (n : Nat) (o : Option V) (g' : Mem) : Prop :=
  ∃ w t : V, g' = zM (zUp (mActG g v n o) (10 + 6) w) 0 (o.getD v) t ∧ (∀ j, 160 ≤ j → w j = 0) ∧ ∀ j, j < 3 → t j = mActU u n o j
theorem zPo_n {g : Mem} {v u : V} {n : Nat} (h : zJk g) : zPo g v u n none (zM g 0 v u) :=
  ⟨g (10 + 6), u, by show _ = zM (zUp g (10 + 6) (g (10 + 6))) 0 v u; rw [zUp_id], h 6 (by omega), fun _ _ => rfl⟩
theorem zPo_nw {g : Mem} {v u w t : V} {n : Nat} (h : ∀ j, 160 ≤ j → w j = 0) (ht : ∀ j, j < 3 → t j = u j) : zPo g v u n none (zM (zUp g (10 + 6) w) 0 v t) := ⟨w, t, rfl, h, ht⟩
theorem zPo_s {g : Mem} {v u v' t : V} {n : Nat} (hn : n ≤ 4) (h : zJk g) (ht : ∀ j, j < 3 → t j = mRecU u n j) : zPo g v u n (some v') (zM (mRecG g v n) 0 v' t) :=
  ⟨g (10 + 6), t, by show _ = zM (zUp (mRecG g v n) (10 + 6) (g (10 + 6))) 0 v' t; rw [← mRecG_o (g := g) (v := v) hn (show 10 + 6 < 11 ∨ 14 < 10 + 6 by omega), zUp_id], h 6 (by omega), ht⟩
theorem zPo_sw {g : Mem} {v u v' w t : V} {n : Nat} (hn : n ≤ 4) (h : ∀ j, 160 ≤ j → w j = 0) (ht : ∀ j, j < 3 → t j = mRecU u n j) : zPo g v u n (some v') (zM (mRecG (zUp g (10 + 6) w) v n) 0 v' t) :=
  ⟨w, t, by show _ = zM (zUp (mRecG g v n) (10 + 6) w) 0 v' t; rw [mRecG_up hn (by omega)], h, ht⟩
theorem z_p1 {v : V} (hf : zFl v) {z : Nat} (hz : z < 12) : v (13 + 11 * z + 0) = 1 ↔ ¬ v (13 + 11 * z + 0) = 0 :=
  ⟨fun q => by rw [q]; decide, fun q => (hf z hz).1.resolve_left q⟩
