/-! the same rows over memories of a form: zUp g 0 v (the state now), zM g B v u (the model: slot B, its scalars), zT g u w t n (the text) -/
def zM (g : Mem) (B : Nat) (v u : Nat → Int32) : Mem := zUp (zUp g (10 + B) v) 18 u
theorem zM_18 (g : Mem) (B : Nat) (v u : Nat → Int32) : zM g B v u 18 = u := zUp_s _ _ _
theorem zM_B (g : Mem) {B : Nat} (hB : B < 7) (v u : Nat → Int32) : zM g B v u (10 + B) = v := by
  unfold zM
  rw [zUp_n _ _ (by omega), zUp_s]
theorem zM_o (g : Mem) {B j : Nat} (v u : Nat → Int32) (h1 : j ≠ 18) (h2 : j ≠ 10 + B) : zM g B v u j = g j := by
  unfold zM
  rw [zUp_n _ _ h1, zUp_n _ _ h2]
theorem zM_p18 (g : Mem) (B : Nat) (v u w : Nat → Int32) : zUp (zM g B v u) 18 w = zM g B v w := zUp_u _ _ _ _
theorem zM_pB (g : Mem) {B : Nat} (hB : B < 7) (v u w : Nat → Int32) : zUp (zM g B v u) (10 + B) w = zM g B w u := by
  unfold zM
  rw [zUp_c _ _ _ (show 18 ≠ 10 + B by omega), zUp_u]
theorem zM_id (g : Mem) {B : Nat} (hB : B < 7) : zM g B (g (10 + B)) (g 18) = g := by
  unfold zM
  rw [zUp_id, zUp_id]
def zT (g : Mem) (u w t n : Nat → Int32) : Mem := zUp (zUp (zUp (zUp g 8 w) 9 t) 17 n) 6 u
theorem zT_6 (g : Mem) (u w t n : Nat → Int32) : zT g u w t n 6 = u := zUp_s _ _ _
theorem zT_7 (g : Mem) (u w t n : Nat → Int32) : zT g u w t n 7 = g 7 := by simp [zT, zUp]
theorem zT_8 (g : Mem) (u w t n : Nat → Int32) : zT g u w t n 8 = w := by simp [zT, zUp]
theorem zT_9 (g : Mem) (u w t n : Nat → Int32) : zT g u w t n 9 = t := by simp [zT, zUp]
theorem zT_17 (g : Mem) (u w t n : Nat → Int32) : zT g u w t n 17 = n := by simp [zT, zUp]
theorem zT_p6 (g : Mem) (u w t n x : Nat → Int32) : zUp (zT g u w t n) 6 x = zT g x w t n := zUp_u _ _ _ _
theorem zT_p8 (g : Mem) (u w t n x : Nat → Int32) : zUp (zT g u w t n) 8 x = zT g u x t n := by
  funext j
  by_cases h1 : j = 8 <;> by_cases h2 : j = 6 <;> by_cases h3 : j = 9 <;> by_cases h4 : j = 17 <;> simp_all [zT, zUp]
theorem zT_p9 (g : Mem) (u w t n x : Nat → Int32) : zUp (zT g u w t n) 9 x = zT g u w x n := by
  funext j
  by_cases h1 : j = 8 <;> by_cases h2 : j = 6 <;> by_cases h3 : j = 9 <;> by_cases h4 : j = 17 <;> simp_all [zT, zUp]
theorem zT_p17 (g : Mem) (u w t n x : Nat → Int32) : zUp (zT g u w t n) 17 x = zT g u w t x := by
  funext j
  by_cases h1 : j = 8 <;> by_cases h2 : j = 6 <;> by_cases h3 : j = 9 <;> by_cases h4 : j = 17 <;> simp_all [zT, zUp]
theorem zT_id (g : Mem) : zT g (g 6) (g 8) (g 9) (g 17) = g := by
  unfold zT
  rw [zUp_id, zUp_id, zUp_id, zUp_id]
theorem z_nb (P : Prop) [Decidable P] : narrow .boolean (.int (if P then 1 else 0)) = .int (if P then 1 else 0) := by
  by_cases h : P
  · rw [if_pos h]; rfl
  · rw [if_neg h]; rfl
theorem z_inc1 (i : Nat) : nI i + Int32.ofInt 1 = nI (i + 1) := nI_1 i
theorem z_incI (x : Int32) : x + Int32.ofInt 1 = x + 1 := rfl
theorem z_b01 (P : Prop) [Decidable P] : (if P then (1 : Int32) else 0) = 0 ∨ (if P then (1 : Int32) else 0) = 1 := by
  by_cases h : P
  · rw [if_pos h]; exact Or.inr rfl
  · rw [if_neg h]; exact Or.inl rfl
theorem z_nlt {x y : Int32} (h : y ≤ x) : ¬ x < y := fun q => by have h1 := Int32.le_iff_toInt_le.mp h; have h2 := Int32.lt_iff_toInt_lt.mp q; omega
theorem z_lt {x y : Int32} (h : ¬ y ≤ x) : x < y := Int32.lt_iff_toInt_lt.mpr (Int.not_le.mp (fun q => h (Int32.le_iff_toInt_le.mpr q)))
section ZN
variable {p : Program} {l : Launch} {e : Env} {R : Room} {s : State} {m : MethodId} {args : Array Value} {below : List Frame} {meth : Method} {c : Code} {H : Heap} {locs : List Loc} {cells slots : Nat} {Q : State → Prop}
variable {cc : ByteArray} {nL : Nat} {own : String} {pc : Nat} {ls : Array Slot} {rest st : List Value} {D : va_G} {k : Nat → ClassId} {a : Nat → Nat → Nat} {g : Mem} {v u w tt n : Nat → Int32}
theorem b_ifeq (hx : p.tables.exec = Jvm.exec) (hb : c.code = cc) {P : Prop} [Decidable P] {off : Int} {tgt : Nat} (hdg : decode cc pc = .ok (.ifCond .eq off, 3)) (ht : (pc : Int) + off = (tgt : Int)) (kt : ¬ P → W p l e R s m args below meth c H locs cells slots Q (F0 m tgt ls rest)) (kf : P → W p l e R s m args below meth c H locs cells slots Q (F0 m (pc + 3) ls rest)) : W p l e R s m args below meth c H locs cells slots Q (F0 m pc ls (.int (if P then 1 else 0) :: rest)) := by
  by_cases h : P
  · rw [if_pos h]
    exact lv_if_eq hx hb hdg ht (fun q => absurd q (by decide)) (fun _ => kf h)
  · rw [if_neg h]
    exact lv_if_eq hx hb hdg ht (fun _ => kt h) (fun q => absurd rfl q)
theorem b_ifne (hx : p.tables.exec = Jvm.exec) (hb : c.code = cc) {P : Prop} [Decidable P] {off : Int} {tgt : Nat} (hdg : decode cc pc = .ok (.ifCond .ne off, 3)) (ht : (pc : Int) + off = (tgt : Int)) (kt : P → W p l e R s m args below meth c H locs cells slots Q (F0 m tgt ls rest)) (kf : ¬ P → W p l e R s m args below meth c H locs cells slots Q (F0 m (pc + 3) ls rest)) : W p l e R s m args below meth c H locs cells slots Q (F0 m pc ls (.int (if P then 1 else 0) :: rest)) := by
  by_cases h : P
  · rw [if_pos h]
    exact lv_if_ne hx hb hdg ht (fun _ => kt h) (fun q => absurd q (by decide))
  · rw [if_neg h]
    exact lv_if_ne hx hb hdg ht (fun q => absurd rfl q) (fun _ => kf h)
theorem z_sl : ∀ n, n < 32 → ((nI n &&& 31).toBitVec.smod 32).toNat = n := by decide +kernel
theorem n_ishr (hx : p.tables.exec = Jvm.exec) (hb : c.code = cc) {A B : Nat} (hA : A < 2 ^ 31) (hB : B < 32) (hdg : decode cc pc = .ok (.ishr, 1)) (kk : W p l e R s m args below meth c H locs cells slots Q (F0 m (pc + 1) ls (.int (nI (A / 2 ^ B)) :: rest))) : W p l e R s m args below meth c H locs cells slots Q (F0 m pc ls (.int (nI B) :: .int (nI A) :: rest)) :=
  lv_ishr hx hb hdg (by rw [pk_shrN hA (nI B &&& 31) B (z_sl B hB)]; exact kk)
theorem n_if_eq (hx : p.tables.exec = Jvm.exec) (hb : c.code = cc) {A : Nat} (hA : A < 2 ^ 31) {off : Int} {tgt : Nat} (hdg : decode cc pc = .ok (.ifCond .eq off, 3)) (ht : (pc : Int) + off = (tgt : Int)) (kt : A = 0 → W p l e R s m args below meth c H locs cells slots Q (F0 m tgt ls rest)) (kf : A ≠ 0 → W p l e R s m args below meth c H locs cells slots Q (F0 m (pc + 3) ls rest)) : W p l e R s m args below meth c H locs cells slots Q (F0 m pc ls (.int (nI A) :: rest)) :=
  lv_if_eq hx hb hdg ht (fun h => kt ((nI_eq hA (by omega)).mp (h.trans nI_0.symm))) (fun h => kf (fun q => h (by rw [q]; exact nI_0)))
theorem n_if_ne (hx : p.tables.exec = Jvm.exec) (hb : c.code = cc) {A : Nat} (hA : A < 2 ^ 31) {off : Int} {tgt : Nat} (hdg : decode cc pc = .ok (.ifCond .ne off, 3)) (ht : (pc : Int) + off = (tgt : Int)) (kt : A ≠ 0 → W p l e R s m args below meth c H locs cells slots Q (F0 m tgt ls rest)) (kf : A = 0 → W p l e R s m args below meth c H locs cells slots Q (F0 m (pc + 3) ls rest)) : W p l e R s m args below meth c H locs cells slots Q (F0 m pc ls (.int (nI A) :: rest)) :=
  lv_if_ne hx hb hdg ht (fun h => kt (fun q => h (by rw [q]; exact nI_0))) (fun h => kf ((nI_eq hA (by omega)).mp (h.trans nI_0.symm)))
theorem n_if_gt (hx : p.tables.exec = Jvm.exec) (hb : c.code = cc) {A : Nat} (hA : A < 2 ^ 31) {off : Int} {tgt : Nat} (hdg : decode cc pc = .ok (.ifCond .gt off, 3)) (ht : (pc : Int) + off = (tgt : Int)) (kt : 0 < A → W p l e R s m args below meth c H locs cells slots Q (F0 m tgt ls rest)) (kf : A = 0 → W p l e R s m args below meth c H locs cells slots Q (F0 m (pc + 3) ls rest)) : W p l e R s m args below meth c H locs cells slots Q (F0 m pc ls (.int (nI A) :: rest)) :=
  lv_if_gt hx hb hdg ht (fun h => kt ((nI_ltI (by omega) hA).mp (by rw [nI_0]; exact h))) (fun h => kf (by rcases Nat.eq_zero_or_pos A with q | q; exact q; exact absurd (by rw [← nI_0]; exact (nI_ltI (by omega) hA).mpr q) h))
theorem n_if_le (hx : p.tables.exec = Jvm.exec) (hb : c.code = cc) {A : Nat} (hA : A < 2 ^ 31) {off : Int} {tgt : Nat} (hdg : decode cc pc = .ok (.ifCond .le off, 3)) (ht : (pc : Int) + off = (tgt : Int)) (kt : A = 0 → W p l e R s m args below meth c H locs cells slots Q (F0 m tgt ls rest)) (kf : 0 < A → W p l e R s m args below meth c H locs cells slots Q (F0 m (pc + 3) ls rest)) : W p l e R s m args below meth c H locs cells slots Q (F0 m pc ls (.int (nI A) :: rest)) :=
  lv_if_le hx hb hdg ht (fun h => kt (by rcases Nat.eq_zero_or_pos A with q | q; exact q; exact absurd h (nI_nle q hA))) (fun h => kf (by rcases Nat.eq_zero_or_pos A with q | q; exact absurd (by rw [q, nI_0]; decide) h; exact q))
theorem i_icmp_lt (hx : p.tables.exec = Jvm.exec) (hb : c.code = cc) {x y : Int32} {off : Int} {tgt : Nat} (hdg : decode cc pc = .ok (.if_icmp .lt off, 3)) (ht : (pc : Int) + off = (tgt : Int)) (kt : x < y → W p l e R s m args below meth c H locs cells slots Q (F0 m tgt ls rest)) (kf : ¬ x < y → W p l e R s m args below meth c H locs cells slots Q (F0 m (pc + 3) ls rest)) : W p l e R s m args below meth c H locs cells slots Q (F0 m pc ls (.int y :: .int x :: rest)) := lv_icmp_lt hx hb hdg ht kt kf
theorem i_if_lt (hx : p.tables.exec = Jvm.exec) (hb : c.code = cc) {x : Int32} {off : Int} {tgt : Nat} (hdg : decode cc pc = .ok (.ifCond .lt off, 3)) (ht : (pc : Int) + off = (tgt : Int)) (kt : x < 0 → W p l e R s m args below meth c H locs cells slots Q (F0 m tgt ls rest)) (kf : ¬ x < 0 → W p l e R s m args below meth c H locs cells slots Q (F0 m (pc + 3) ls rest)) : W p l e R s m args below meth c H locs cells slots Q (F0 m pc ls (.int x :: rest)) := lv_if_lt hx hb hdg ht kt kf
theorem i_icmp_ge (hx : p.tables.exec = Jvm.exec) (hb : c.code = cc) {x y : Int32} {off : Int} {tgt : Nat} (hdg : decode cc pc = .ok (.if_icmp .ge off, 3)) (ht : (pc : Int) + off = (tgt : Int)) (kt : ¬ x < y → W p l e R s m args below meth c H locs cells slots Q (F0 m tgt ls rest)) (kf : x < y → W p l e R s m args below meth c H locs cells slots Q (F0 m (pc + 3) ls rest)) : W p l e R s m args below meth c H locs cells slots Q (F0 m pc ls (.int y :: .int x :: rest)) := lv_icmp_ge hx hb hdg ht (fun h => kt (z_nlt h)) (fun h => kf (z_lt h))
theorem i_if_ge (hx : p.tables.exec = Jvm.exec) (hb : c.code = cc) {x : Int32} {off : Int} {tgt : Nat} (hdg : decode cc pc = .ok (.ifCond .ge off, 3)) (ht : (pc : Int) + off = (tgt : Int)) (kt : ¬ x < 0 → W p l e R s m args below meth c H locs cells slots Q (F0 m tgt ls rest)) (kf : x < 0 → W p l e R s m args below meth c H locs cells slots Q (F0 m (pc + 3) ls rest)) : W p l e R s m args below meth c H locs cells slots Q (F0 m pc ls (.int x :: rest)) := lv_if_ge hx hb hdg ht (fun h => kt (z_nlt h)) (fun h => kf (z_lt h))
theorem i_icmp_gt (hx : p.tables.exec = Jvm.exec) (hb : c.code = cc) {x y : Int32} {off : Int} {tgt : Nat} (hdg : decode cc pc = .ok (.if_icmp .gt off, 3)) (ht : (pc : Int) + off = (tgt : Int)) (kt : y < x → W p l e R s m args below meth c H locs cells slots Q (F0 m tgt ls rest)) (kf : ¬ y < x → W p l e R s m args below meth c H locs cells slots Q (F0 m (pc + 3) ls rest)) : W p l e R s m args below meth c H locs cells slots Q (F0 m pc ls (.int y :: .int x :: rest)) := lv_icmp_gt hx hb hdg ht kt kf
theorem i_if_gt (hx : p.tables.exec = Jvm.exec) (hb : c.code = cc) {x : Int32} {off : Int} {tgt : Nat} (hdg : decode cc pc = .ok (.ifCond .gt off, 3)) (ht : (pc : Int) + off = (tgt : Int)) (kt : 0 < x → W p l e R s m args below meth c H locs cells slots Q (F0 m tgt ls rest)) (kf : ¬ 0 < x → W p l e R s m args below meth c H locs cells slots Q (F0 m (pc + 3) ls rest)) : W p l e R s m args below meth c H locs cells slots Q (F0 m pc ls (.int x :: rest)) := lv_if_gt hx hb hdg ht kt kf
theorem i_icmp_le (hx : p.tables.exec = Jvm.exec) (hb : c.code = cc) {x y : Int32} {off : Int} {tgt : Nat} (hdg : decode cc pc = .ok (.if_icmp .le off, 3)) (ht : (pc : Int) + off = (tgt : Int)) (kt : ¬ y < x → W p l e R s m args below meth c H locs cells slots Q (F0 m tgt ls rest)) (kf : y < x → W p l e R s m args below meth c H locs cells slots Q (F0 m (pc + 3) ls rest)) : W p l e R s m args below meth c H locs cells slots Q (F0 m pc ls (.int y :: .int x :: rest)) := lv_icmp_le hx hb hdg ht (fun h => kt (z_nlt h)) (fun h => kf (z_lt h))
theorem i_if_le (hx : p.tables.exec = Jvm.exec) (hb : c.code = cc) {x : Int32} {off : Int} {tgt : Nat} (hdg : decode cc pc = .ok (.ifCond .le off, 3)) (ht : (pc : Int) + off = (tgt : Int)) (kt : ¬ 0 < x → W p l e R s m args below meth c H locs cells slots Q (F0 m tgt ls rest)) (kf : 0 < x → W p l e R s m args below meth c H locs cells slots Q (F0 m (pc + 3) ls rest)) : W p l e R s m args below meth c H locs cells slots Q (F0 m pc ls (.int x :: rest)) := lv_if_le hx hb hdg ht (fun h => kt (z_nlt h)) (fun h => kf (z_lt h))
theorem gn_X1_kept (X : zC p m c cc nL s args own D k a) (hH : zH D k a s (zUp g 0 v) H locs) {t : Nat} (ht : t < 12) {idx : Nat} (hl : .fieldLink own idx "KeptPlans$Plan" "kept" "Z" ∈ GW) (hdg : decode cc pc = .ok (.getfield idx, 3))
    (kk : W p l e R s m args below meth c H locs cells slots Q (F0 m (pc + 3) ls (.int (v (13 + 11 * t + 0)) :: rest))) : W p l e R s m args below meth c H locs cells slots Q (F0 m pc ls (.ref (a 0 (8 + t)) :: rest)) :=
  gf_X1_kept X hH (by omega) ht hl hdg (by rw [zUp_s]; exact kk)
theorem pn_X1_kept (X : zC p m c cc nL s args own D k a) (hH : zH D k a s (zUp g 0 v) H locs) {t : Nat} (ht : t < 12) {idx : Nat} {x : Int32} (hx : x = 0 ∨ x = 1) (hl : .fieldLink own idx "KeptPlans$Plan" "kept" "Z" ∈ GW) (hdg : decode cc pc = .ok (.putfield idx, 3))
    (kk : ∀ (H : Heap) (locs : List Loc), zH D k a s (zUp g 0 (upd v (13 + 11 * t + 0) x)) H locs → W p l e R s m args below meth c H locs cells slots Q (F0 m (pc + 3) ls (rest))) : W p l e R s m args below meth c H locs cells slots Q (F0 m pc ls (.int x :: .ref (a 0 (8 + t)) :: rest)) :=
  pf_X1_kept X hH (by omega) ht hx hl hdg (fun H1 locs1 h => kk H1 locs1 (by rw [zUp_s, zUp_u] at h; exact h))
theorem g2_X1_kept (X : zC p m c cc nL s args own D k a) {i j t : Nat} (hi : i < 6) (hj : j < 6) (hij : j ≠ i) (ht : t < 12) (hH : zH D k a s (zUp g i v) H locs) {idx : Nat} (hl : .fieldLink own idx "KeptPlans$Plan" "kept" "Z" ∈ GW) (hdg : decode cc pc = .ok (.getfield idx, 3))
    (kk : W p l e R s m args below meth c H locs cells slots Q (F0 m (pc + 3) ls (.int (g j (13 + 11 * t + 0)) :: rest))) : W p l e R s m args below meth c H locs cells slots Q (F0 m pc ls (.ref (a j (8 + t)) :: rest)) :=
  gf_X1_kept X hH hj ht hl hdg (by rw [zUp_n _ _ hij]; exact kk)
theorem p2_X1_kept (X : zC p m c cc nL s args own D k a) {i t : Nat} (hi : i < 6) (ht : t < 12) (hH : zH D k a s (zUp g i v) H locs) {idx : Nat} {x : Int32} (hx : x = 0 ∨ x = 1) (hl : .fieldLink own idx "KeptPlans$Plan" "kept" "Z" ∈ GW) (hdg : decode cc pc = .ok (.putfield idx, 3))
    (kk : ∀ (H : Heap) (locs : List Loc), zH D k a s (zUp g i (upd v (13 + 11 * t + 0) x)) H locs → W p l e R s m args below meth c H locs cells slots Q (F0 m (pc + 3) ls (rest))) : W p l e R s m args below meth c H locs cells slots Q (F0 m pc ls (.int x :: .ref (a i (8 + t)) :: rest)) :=
  pf_X1_kept X hH hi ht hx hl hdg (fun H1 locs1 h => kk H1 locs1 (by rw [zUp_s, zUp_u] at h; exact h))
theorem gn_X1_pinned (X : zC p m c cc nL s args own D k a) (hH : zH D k a s (zUp g 0 v) H locs) {t : Nat} (ht : t < 12) {idx : Nat} (hl : .fieldLink own idx "KeptPlans$Plan" "pinned" "Z" ∈ GW) (hdg : decode cc pc = .ok (.getfield idx, 3))
    (kk : W p l e R s m args below meth c H locs cells slots Q (F0 m (pc + 3) ls (.int (v (13 + 11 * t + 8)) :: rest))) : W p l e R s m args below meth c H locs cells slots Q (F0 m pc ls (.ref (a 0 (8 + t)) :: rest)) :=
  gf_X1_pinned X hH (by omega) ht hl hdg (by rw [zUp_s]; exact kk)
theorem pn_X1_pinned (X : zC p m c cc nL s args own D k a) (hH : zH D k a s (zUp g 0 v) H locs) {t : Nat} (ht : t < 12) {idx : Nat} {x : Int32} (hx : x = 0 ∨ x = 1) (hl : .fieldLink own idx "KeptPlans$Plan" "pinned" "Z" ∈ GW) (hdg : decode cc pc = .ok (.putfield idx, 3))
    (kk : ∀ (H : Heap) (locs : List Loc), zH D k a s (zUp g 0 (upd v (13 + 11 * t + 8) x)) H locs → W p l e R s m args below meth c H locs cells slots Q (F0 m (pc + 3) ls (rest))) : W p l e R s m args below meth c H locs cells slots Q (F0 m pc ls (.int x :: .ref (a 0 (8 + t)) :: rest)) :=
  pf_X1_pinned X hH (by omega) ht hx hl hdg (fun H1 locs1 h => kk H1 locs1 (by rw [zUp_s, zUp_u] at h; exact h))
theorem g2_X1_pinned (X : zC p m c cc nL s args own D k a) {i j t : Nat} (hi : i < 6) (hj : j < 6) (hij : j ≠ i) (ht : t < 12) (hH : zH D k a s (zUp g i v) H locs) {idx : Nat} (hl : .fieldLink own idx "KeptPlans$Plan" "pinned" "Z" ∈ GW) (hdg : decode cc pc = .ok (.getfield idx, 3))
    (kk : W p l e R s m args below meth c H locs cells slots Q (F0 m (pc + 3) ls (.int (g j (13 + 11 * t + 8)) :: rest))) : W p l e R s m args below meth c H locs cells slots Q (F0 m pc ls (.ref (a j (8 + t)) :: rest)) :=
  gf_X1_pinned X hH hj ht hl hdg (by rw [zUp_n _ _ hij]; exact kk)
theorem p2_X1_pinned (X : zC p m c cc nL s args own D k a) {i t : Nat} (hi : i < 6) (ht : t < 12) (hH : zH D k a s (zUp g i v) H locs) {idx : Nat} {x : Int32} (hx : x = 0 ∨ x = 1) (hl : .fieldLink own idx "KeptPlans$Plan" "pinned" "Z" ∈ GW) (hdg : decode cc pc = .ok (.putfield idx, 3))
    (kk : ∀ (H : Heap) (locs : List Loc), zH D k a s (zUp g i (upd v (13 + 11 * t + 8) x)) H locs → W p l e R s m args below meth c H locs cells slots Q (F0 m (pc + 3) ls (rest))) : W p l e R s m args below meth c H locs cells slots Q (F0 m pc ls (.int x :: .ref (a i (8 + t)) :: rest)) :=
  pf_X1_pinned X hH hi ht hx hl hdg (fun H1 locs1 h => kk H1 locs1 (by rw [zUp_s, zUp_u] at h; exact h))
theorem gn_X1_way (X : zC p m c cc nL s args own D k a) (hH : zH D k a s (zUp g 0 v) H locs) {t : Nat} (ht : t < 12) {idx : Nat} (hl : .fieldLink own idx "KeptPlans$Plan" "way" "I" ∈ GW) (hdg : decode cc pc = .ok (.getfield idx, 3))
    (kk : W p l e R s m args below meth c H locs cells slots Q (F0 m (pc + 3) ls (.int (v (13 + 11 * t + 1)) :: rest))) : W p l e R s m args below meth c H locs cells slots Q (F0 m pc ls (.ref (a 0 (8 + t)) :: rest)) :=
  gf_X1_way X hH (by omega) ht hl hdg (by rw [zUp_s]; exact kk)
theorem pn_X1_way (X : zC p m c cc nL s args own D k a) (hH : zH D k a s (zUp g 0 v) H locs) {t : Nat} (ht : t < 12) {idx : Nat} {x : Int32} (hl : .fieldLink own idx "KeptPlans$Plan" "way" "I" ∈ GW) (hdg : decode cc pc = .ok (.putfield idx, 3))
    (kk : ∀ (H : Heap) (locs : List Loc), zH D k a s (zUp g 0 (upd v (13 + 11 * t + 1) x)) H locs → W p l e R s m args below meth c H locs cells slots Q (F0 m (pc + 3) ls (rest))) : W p l e R s m args below meth c H locs cells slots Q (F0 m pc ls (.int x :: .ref (a 0 (8 + t)) :: rest)) :=
  pf_X1_way X hH (by omega) ht hl hdg (fun H1 locs1 h => kk H1 locs1 (by rw [zUp_s, zUp_u] at h; exact h))
theorem g2_X1_way (X : zC p m c cc nL s args own D k a) {i j t : Nat} (hi : i < 6) (hj : j < 6) (hij : j ≠ i) (ht : t < 12) (hH : zH D k a s (zUp g i v) H locs) {idx : Nat} (hl : .fieldLink own idx "KeptPlans$Plan" "way" "I" ∈ GW) (hdg : decode cc pc = .ok (.getfield idx, 3))
    (kk : W p l e R s m args below meth c H locs cells slots Q (F0 m (pc + 3) ls (.int (g j (13 + 11 * t + 1)) :: rest))) : W p l e R s m args below meth c H locs cells slots Q (F0 m pc ls (.ref (a j (8 + t)) :: rest)) :=
  gf_X1_way X hH hj ht hl hdg (by rw [zUp_n _ _ hij]; exact kk)
theorem p2_X1_way (X : zC p m c cc nL s args own D k a) {i t : Nat} (hi : i < 6) (ht : t < 12) (hH : zH D k a s (zUp g i v) H locs) {idx : Nat} {x : Int32} (hl : .fieldLink own idx "KeptPlans$Plan" "way" "I" ∈ GW) (hdg : decode cc pc = .ok (.putfield idx, 3))
    (kk : ∀ (H : Heap) (locs : List Loc), zH D k a s (zUp g i (upd v (13 + 11 * t + 1) x)) H locs → W p l e R s m args below meth c H locs cells slots Q (F0 m (pc + 3) ls (rest))) : W p l e R s m args below meth c H locs cells slots Q (F0 m pc ls (.int x :: .ref (a i (8 + t)) :: rest)) :=
  pf_X1_way X hH hi ht hl hdg (fun H1 locs1 h => kk H1 locs1 (by rw [zUp_s, zUp_u] at h; exact h))
theorem gn_X1_least (X : zC p m c cc nL s args own D k a) (hH : zH D k a s (zUp g 0 v) H locs) {t : Nat} (ht : t < 12) {idx : Nat} (hl : .fieldLink own idx "KeptPlans$Plan" "least" "I" ∈ GW) (hdg : decode cc pc = .ok (.getfield idx, 3))
    (kk : W p l e R s m args below meth c H locs cells slots Q (F0 m (pc + 3) ls (.int (v (13 + 11 * t + 2)) :: rest))) : W p l e R s m args below meth c H locs cells slots Q (F0 m pc ls (.ref (a 0 (8 + t)) :: rest)) :=
  gf_X1_least X hH (by omega) ht hl hdg (by rw [zUp_s]; exact kk)
theorem pn_X1_least (X : zC p m c cc nL s args own D k a) (hH : zH D k a s (zUp g 0 v) H locs) {t : Nat} (ht : t < 12) {idx : Nat} {x : Int32} (hl : .fieldLink own idx "KeptPlans$Plan" "least" "I" ∈ GW) (hdg : decode cc pc = .ok (.putfield idx, 3))
    (kk : ∀ (H : Heap) (locs : List Loc), zH D k a s (zUp g 0 (upd v (13 + 11 * t + 2) x)) H locs → W p l e R s m args below meth c H locs cells slots Q (F0 m (pc + 3) ls (rest))) : W p l e R s m args below meth c H locs cells slots Q (F0 m pc ls (.int x :: .ref (a 0 (8 + t)) :: rest)) :=
  pf_X1_least X hH (by omega) ht hl hdg (fun H1 locs1 h => kk H1 locs1 (by rw [zUp_s, zUp_u] at h; exact h))
theorem g2_X1_least (X : zC p m c cc nL s args own D k a) {i j t : Nat} (hi : i < 6) (hj : j < 6) (hij : j ≠ i) (ht : t < 12) (hH : zH D k a s (zUp g i v) H locs) {idx : Nat} (hl : .fieldLink own idx "KeptPlans$Plan" "least" "I" ∈ GW) (hdg : decode cc pc = .ok (.getfield idx, 3))
    (kk : W p l e R s m args below meth c H locs cells slots Q (F0 m (pc + 3) ls (.int (g j (13 + 11 * t + 2)) :: rest))) : W p l e R s m args below meth c H locs cells slots Q (F0 m pc ls (.ref (a j (8 + t)) :: rest)) :=
  gf_X1_least X hH hj ht hl hdg (by rw [zUp_n _ _ hij]; exact kk)
theorem p2_X1_least (X : zC p m c cc nL s args own D k a) {i t : Nat} (hi : i < 6) (ht : t < 12) (hH : zH D k a s (zUp g i v) H locs) {idx : Nat} {x : Int32} (hl : .fieldLink own idx "KeptPlans$Plan" "least" "I" ∈ GW) (hdg : decode cc pc = .ok (.putfield idx, 3))
    (kk : ∀ (H : Heap) (locs : List Loc), zH D k a s (zUp g i (upd v (13 + 11 * t + 2) x)) H locs → W p l e R s m args below meth c H locs cells slots Q (F0 m (pc + 3) ls (rest))) : W p l e R s m args below meth c H locs cells slots Q (F0 m pc ls (.int x :: .ref (a i (8 + t)) :: rest)) :=
  pf_X1_least X hH hi ht hl hdg (fun H1 locs1 h => kk H1 locs1 (by rw [zUp_s, zUp_u] at h; exact h))
theorem gn_X1_most (X : zC p m c cc nL s args own D k a) (hH : zH D k a s (zUp g 0 v) H locs) {t : Nat} (ht : t < 12) {idx : Nat} (hl : .fieldLink own idx "KeptPlans$Plan" "most" "I" ∈ GW) (hdg : decode cc pc = .ok (.getfield idx, 3))
    (kk : W p l e R s m args below meth c H locs cells slots Q (F0 m (pc + 3) ls (.int (v (13 + 11 * t + 3)) :: rest))) : W p l e R s m args below meth c H locs cells slots Q (F0 m pc ls (.ref (a 0 (8 + t)) :: rest)) :=
  gf_X1_most X hH (by omega) ht hl hdg (by rw [zUp_s]; exact kk)
theorem pn_X1_most (X : zC p m c cc nL s args own D k a) (hH : zH D k a s (zUp g 0 v) H locs) {t : Nat} (ht : t < 12) {idx : Nat} {x : Int32} (hl : .fieldLink own idx "KeptPlans$Plan" "most" "I" ∈ GW) (hdg : decode cc pc = .ok (.putfield idx, 3))
    (kk : ∀ (H : Heap) (locs : List Loc), zH D k a s (zUp g 0 (upd v (13 + 11 * t + 3) x)) H locs → W p l e R s m args below meth c H locs cells slots Q (F0 m (pc + 3) ls (rest))) : W p l e R s m args below meth c H locs cells slots Q (F0 m pc ls (.int x :: .ref (a 0 (8 + t)) :: rest)) :=
  pf_X1_most X hH (by omega) ht hl hdg (fun H1 locs1 h => kk H1 locs1 (by rw [zUp_s, zUp_u] at h; exact h))
theorem g2_X1_most (X : zC p m c cc nL s args own D k a) {i j t : Nat} (hi : i < 6) (hj : j < 6) (hij : j ≠ i) (ht : t < 12) (hH : zH D k a s (zUp g i v) H locs) {idx : Nat} (hl : .fieldLink own idx "KeptPlans$Plan" "most" "I" ∈ GW) (hdg : decode cc pc = .ok (.getfield idx, 3))
    (kk : W p l e R s m args below meth c H locs cells slots Q (F0 m (pc + 3) ls (.int (g j (13 + 11 * t + 3)) :: rest))) : W p l e R s m args below meth c H locs cells slots Q (F0 m pc ls (.ref (a j (8 + t)) :: rest)) :=
  gf_X1_most X hH hj ht hl hdg (by rw [zUp_n _ _ hij]; exact kk)
theorem p2_X1_most (X : zC p m c cc nL s args own D k a) {i t : Nat} (hi : i < 6) (ht : t < 12) (hH : zH D k a s (zUp g i v) H locs) {idx : Nat} {x : Int32} (hl : .fieldLink own idx "KeptPlans$Plan" "most" "I" ∈ GW) (hdg : decode cc pc = .ok (.putfield idx, 3))
    (kk : ∀ (H : Heap) (locs : List Loc), zH D k a s (zUp g i (upd v (13 + 11 * t + 3) x)) H locs → W p l e R s m args below meth c H locs cells slots Q (F0 m (pc + 3) ls (rest))) : W p l e R s m args below meth c H locs cells slots Q (F0 m pc ls (.int x :: .ref (a i (8 + t)) :: rest)) :=
  pf_X1_most X hH hi ht hl hdg (fun H1 locs1 h => kk H1 locs1 (by rw [zUp_s, zUp_u] at h; exact h))
theorem gn_X1_number (X : zC p m c cc nL s args own D k a) (hH : zH D k a s (zUp g 0 v) H locs) {t : Nat} (ht : t < 12) {idx : Nat} (hl : .fieldLink own idx "KeptPlans$Plan" "number" "I" ∈ GW) (hdg : decode cc pc = .ok (.getfield idx, 3))
    (kk : W p l e R s m args below meth c H locs cells slots Q (F0 m (pc + 3) ls (.int (v (13 + 11 * t + 4)) :: rest))) : W p l e R s m args below meth c H locs cells slots Q (F0 m pc ls (.ref (a 0 (8 + t)) :: rest)) :=
  gf_X1_number X hH (by omega) ht hl hdg (by rw [zUp_s]; exact kk)
theorem pn_X1_number (X : zC p m c cc nL s args own D k a) (hH : zH D k a s (zUp g 0 v) H locs) {t : Nat} (ht : t < 12) {idx : Nat} {x : Int32} (hl : .fieldLink own idx "KeptPlans$Plan" "number" "I" ∈ GW) (hdg : decode cc pc = .ok (.putfield idx, 3))
    (kk : ∀ (H : Heap) (locs : List Loc), zH D k a s (zUp g 0 (upd v (13 + 11 * t + 4) x)) H locs → W p l e R s m args below meth c H locs cells slots Q (F0 m (pc + 3) ls (rest))) : W p l e R s m args below meth c H locs cells slots Q (F0 m pc ls (.int x :: .ref (a 0 (8 + t)) :: rest)) :=
  pf_X1_number X hH (by omega) ht hl hdg (fun H1 locs1 h => kk H1 locs1 (by rw [zUp_s, zUp_u] at h; exact h))
theorem g2_X1_number (X : zC p m c cc nL s args own D k a) {i j t : Nat} (hi : i < 6) (hj : j < 6) (hij : j ≠ i) (ht : t < 12) (hH : zH D k a s (zUp g i v) H locs) {idx : Nat} (hl : .fieldLink own idx "KeptPlans$Plan" "number" "I" ∈ GW) (hdg : decode cc pc = .ok (.getfield idx, 3))
    (kk : W p l e R s m args below meth c H locs cells slots Q (F0 m (pc + 3) ls (.int (g j (13 + 11 * t + 4)) :: rest))) : W p l e R s m args below meth c H locs cells slots Q (F0 m pc ls (.ref (a j (8 + t)) :: rest)) :=
  gf_X1_number X hH hj ht hl hdg (by rw [zUp_n _ _ hij]; exact kk)
theorem p2_X1_number (X : zC p m c cc nL s args own D k a) {i t : Nat} (hi : i < 6) (ht : t < 12) (hH : zH D k a s (zUp g i v) H locs) {idx : Nat} {x : Int32} (hl : .fieldLink own idx "KeptPlans$Plan" "number" "I" ∈ GW) (hdg : decode cc pc = .ok (.putfield idx, 3))
    (kk : ∀ (H : Heap) (locs : List Loc), zH D k a s (zUp g i (upd v (13 + 11 * t + 4) x)) H locs → W p l e R s m args below meth c H locs cells slots Q (F0 m (pc + 3) ls (rest))) : W p l e R s m args below meth c H locs cells slots Q (F0 m pc ls (.int x :: .ref (a i (8 + t)) :: rest)) :=
  pf_X1_number X hH hi ht hl hdg (fun H1 locs1 h => kk H1 locs1 (by rw [zUp_s, zUp_u] at h; exact h))
theorem gn_X1_guess (X : zC p m c cc nL s args own D k a) (hH : zH D k a s (zUp g 0 v) H locs) {t : Nat} (ht : t < 12) {idx : Nat} (hl : .fieldLink own idx "KeptPlans$Plan" "guess" "I" ∈ GW) (hdg : decode cc pc = .ok (.getfield idx, 3))
    (kk : W p l e R s m args below meth c H locs cells slots Q (F0 m (pc + 3) ls (.int (v (13 + 11 * t + 5)) :: rest))) : W p l e R s m args below meth c H locs cells slots Q (F0 m pc ls (.ref (a 0 (8 + t)) :: rest)) :=
  gf_X1_guess X hH (by omega) ht hl hdg (by rw [zUp_s]; exact kk)
theorem pn_X1_guess (X : zC p m c cc nL s args own D k a) (hH : zH D k a s (zUp g 0 v) H locs) {t : Nat} (ht : t < 12) {idx : Nat} {x : Int32} (hl : .fieldLink own idx "KeptPlans$Plan" "guess" "I" ∈ GW) (hdg : decode cc pc = .ok (.putfield idx, 3))
    (kk : ∀ (H : Heap) (locs : List Loc), zH D k a s (zUp g 0 (upd v (13 + 11 * t + 5) x)) H locs → W p l e R s m args below meth c H locs cells slots Q (F0 m (pc + 3) ls (rest))) : W p l e R s m args below meth c H locs cells slots Q (F0 m pc ls (.int x :: .ref (a 0 (8 + t)) :: rest)) :=
  pf_X1_guess X hH (by omega) ht hl hdg (fun H1 locs1 h => kk H1 locs1 (by rw [zUp_s, zUp_u] at h; exact h))
theorem g2_X1_guess (X : zC p m c cc nL s args own D k a) {i j t : Nat} (hi : i < 6) (hj : j < 6) (hij : j ≠ i) (ht : t < 12) (hH : zH D k a s (zUp g i v) H locs) {idx : Nat} (hl : .fieldLink own idx "KeptPlans$Plan" "guess" "I" ∈ GW) (hdg : decode cc pc = .ok (.getfield idx, 3))
    (kk : W p l e R s m args below meth c H locs cells slots Q (F0 m (pc + 3) ls (.int (g j (13 + 11 * t + 5)) :: rest))) : W p l e R s m args below meth c H locs cells slots Q (F0 m pc ls (.ref (a j (8 + t)) :: rest)) :=
  gf_X1_guess X hH hj ht hl hdg (by rw [zUp_n _ _ hij]; exact kk)
theorem p2_X1_guess (X : zC p m c cc nL s args own D k a) {i t : Nat} (hi : i < 6) (ht : t < 12) (hH : zH D k a s (zUp g i v) H locs) {idx : Nat} {x : Int32} (hl : .fieldLink own idx "KeptPlans$Plan" "guess" "I" ∈ GW) (hdg : decode cc pc = .ok (.putfield idx, 3))
    (kk : ∀ (H : Heap) (locs : List Loc), zH D k a s (zUp g i (upd v (13 + 11 * t + 5) x)) H locs → W p l e R s m args below meth c H locs cells slots Q (F0 m (pc + 3) ls (rest))) : W p l e R s m args below meth c H locs cells slots Q (F0 m pc ls (.int x :: .ref (a i (8 + t)) :: rest)) :=
  pf_X1_guess X hH hi ht hl hdg (fun H1 locs1 h => kk H1 locs1 (by rw [zUp_s, zUp_u] at h; exact h))
theorem gn_X1_rows (X : zC p m c cc nL s args own D k a) (hH : zH D k a s (zUp g 0 v) H locs) {t : Nat} (ht : t < 12) {idx : Nat} (hl : .fieldLink own idx "KeptPlans$Plan" "rows" "I" ∈ GW) (hdg : decode cc pc = .ok (.getfield idx, 3))
    (kk : W p l e R s m args below meth c H locs cells slots Q (F0 m (pc + 3) ls (.int (v (13 + 11 * t + 10)) :: rest))) : W p l e R s m args below meth c H locs cells slots Q (F0 m pc ls (.ref (a 0 (8 + t)) :: rest)) :=
  gf_X1_rows X hH (by omega) ht hl hdg (by rw [zUp_s]; exact kk)
theorem pn_X1_rows (X : zC p m c cc nL s args own D k a) (hH : zH D k a s (zUp g 0 v) H locs) {t : Nat} (ht : t < 12) {idx : Nat} {x : Int32} (hl : .fieldLink own idx "KeptPlans$Plan" "rows" "I" ∈ GW) (hdg : decode cc pc = .ok (.putfield idx, 3))
    (kk : ∀ (H : Heap) (locs : List Loc), zH D k a s (zUp g 0 (upd v (13 + 11 * t + 10) x)) H locs → W p l e R s m args below meth c H locs cells slots Q (F0 m (pc + 3) ls (rest))) : W p l e R s m args below meth c H locs cells slots Q (F0 m pc ls (.int x :: .ref (a 0 (8 + t)) :: rest)) :=
  pf_X1_rows X hH (by omega) ht hl hdg (fun H1 locs1 h => kk H1 locs1 (by rw [zUp_s, zUp_u] at h; exact h))
theorem g2_X1_rows (X : zC p m c cc nL s args own D k a) {i j t : Nat} (hi : i < 6) (hj : j < 6) (hij : j ≠ i) (ht : t < 12) (hH : zH D k a s (zUp g i v) H locs) {idx : Nat} (hl : .fieldLink own idx "KeptPlans$Plan" "rows" "I" ∈ GW) (hdg : decode cc pc = .ok (.getfield idx, 3))
    (kk : W p l e R s m args below meth c H locs cells slots Q (F0 m (pc + 3) ls (.int (g j (13 + 11 * t + 10)) :: rest))) : W p l e R s m args below meth c H locs cells slots Q (F0 m pc ls (.ref (a j (8 + t)) :: rest)) :=
  gf_X1_rows X hH hj ht hl hdg (by rw [zUp_n _ _ hij]; exact kk)
theorem p2_X1_rows (X : zC p m c cc nL s args own D k a) {i t : Nat} (hi : i < 6) (ht : t < 12) (hH : zH D k a s (zUp g i v) H locs) {idx : Nat} {x : Int32} (hl : .fieldLink own idx "KeptPlans$Plan" "rows" "I" ∈ GW) (hdg : decode cc pc = .ok (.putfield idx, 3))
    (kk : ∀ (H : Heap) (locs : List Loc), zH D k a s (zUp g i (upd v (13 + 11 * t + 10) x)) H locs → W p l e R s m args below meth c H locs cells slots Q (F0 m (pc + 3) ls (rest))) : W p l e R s m args below meth c H locs cells slots Q (F0 m pc ls (.int x :: .ref (a i (8 + t)) :: rest)) :=
  pf_X1_rows X hH hi ht hl hdg (fun H1 locs1 h => kk H1 locs1 (by rw [zUp_s, zUp_u] at h; exact h))
theorem gn_X1_uses (X : zC p m c cc nL s args own D k a) (hH : zH D k a s (zUp g 0 v) H locs) {t : Nat} (ht : t < 12) {idx : Nat} (hl : .fieldLink own idx "KeptPlans$Plan" "uses" "I" ∈ GW) (hdg : decode cc pc = .ok (.getfield idx, 3))
    (kk : W p l e R s m args below meth c H locs cells slots Q (F0 m (pc + 3) ls (.int (v (13 + 11 * t + 9)) :: rest))) : W p l e R s m args below meth c H locs cells slots Q (F0 m pc ls (.ref (a 0 (8 + t)) :: rest)) :=
  gf_X1_uses X hH (by omega) ht hl hdg (by rw [zUp_s]; exact kk)
theorem pn_X1_uses (X : zC p m c cc nL s args own D k a) (hH : zH D k a s (zUp g 0 v) H locs) {t : Nat} (ht : t < 12) {idx : Nat} {x : Int32} (hl : .fieldLink own idx "KeptPlans$Plan" "uses" "I" ∈ GW) (hdg : decode cc pc = .ok (.putfield idx, 3))
    (kk : ∀ (H : Heap) (locs : List Loc), zH D k a s (zUp g 0 (upd v (13 + 11 * t + 9) x)) H locs → W p l e R s m args below meth c H locs cells slots Q (F0 m (pc + 3) ls (rest))) : W p l e R s m args below meth c H locs cells slots Q (F0 m pc ls (.int x :: .ref (a 0 (8 + t)) :: rest)) :=
  pf_X1_uses X hH (by omega) ht hl hdg (fun H1 locs1 h => kk H1 locs1 (by rw [zUp_s, zUp_u] at h; exact h))
theorem g2_X1_uses (X : zC p m c cc nL s args own D k a) {i j t : Nat} (hi : i < 6) (hj : j < 6) (hij : j ≠ i) (ht : t < 12) (hH : zH D k a s (zUp g i v) H locs) {idx : Nat} (hl : .fieldLink own idx "KeptPlans$Plan" "uses" "I" ∈ GW) (hdg : decode cc pc = .ok (.getfield idx, 3))
    (kk : W p l e R s m args below meth c H locs cells slots Q (F0 m (pc + 3) ls (.int (g j (13 + 11 * t + 9)) :: rest))) : W p l e R s m args below meth c H locs cells slots Q (F0 m pc ls (.ref (a j (8 + t)) :: rest)) :=
  gf_X1_uses X hH hj ht hl hdg (by rw [zUp_n _ _ hij]; exact kk)
theorem p2_X1_uses (X : zC p m c cc nL s args own D k a) {i t : Nat} (hi : i < 6) (ht : t < 12) (hH : zH D k a s (zUp g i v) H locs) {idx : Nat} {x : Int32} (hl : .fieldLink own idx "KeptPlans$Plan" "uses" "I" ∈ GW) (hdg : decode cc pc = .ok (.putfield idx, 3))
    (kk : ∀ (H : Heap) (locs : List Loc), zH D k a s (zUp g i (upd v (13 + 11 * t + 9) x)) H locs → W p l e R s m args below meth c H locs cells slots Q (F0 m (pc + 3) ls (rest))) : W p l e R s m args below meth c H locs cells slots Q (F0 m pc ls (.int x :: .ref (a i (8 + t)) :: rest)) :=
  pf_X1_uses X hH hi ht hl hdg (fun H1 locs1 h => kk H1 locs1 (by rw [zUp_s, zUp_u] at h; exact h))
theorem gn_X1_madeAt (X : zC p m c cc nL s args own D k a) (hH : zH D k a s (zUp g 0 v) H locs) {t : Nat} (ht : t < 12) {idx : Nat} (hl : .fieldLink own idx "KeptPlans$Plan" "madeAt" "I" ∈ GW) (hdg : decode cc pc = .ok (.getfield idx, 3))
    (kk : W p l e R s m args below meth c H locs cells slots Q (F0 m (pc + 3) ls (.int (v (13 + 11 * t + 6)) :: rest))) : W p l e R s m args below meth c H locs cells slots Q (F0 m pc ls (.ref (a 0 (8 + t)) :: rest)) :=
  gf_X1_madeAt X hH (by omega) ht hl hdg (by rw [zUp_s]; exact kk)
theorem pn_X1_madeAt (X : zC p m c cc nL s args own D k a) (hH : zH D k a s (zUp g 0 v) H locs) {t : Nat} (ht : t < 12) {idx : Nat} {x : Int32} (hl : .fieldLink own idx "KeptPlans$Plan" "madeAt" "I" ∈ GW) (hdg : decode cc pc = .ok (.putfield idx, 3))
    (kk : ∀ (H : Heap) (locs : List Loc), zH D k a s (zUp g 0 (upd v (13 + 11 * t + 6) x)) H locs → W p l e R s m args below meth c H locs cells slots Q (F0 m (pc + 3) ls (rest))) : W p l e R s m args below meth c H locs cells slots Q (F0 m pc ls (.int x :: .ref (a 0 (8 + t)) :: rest)) :=
  pf_X1_madeAt X hH (by omega) ht hl hdg (fun H1 locs1 h => kk H1 locs1 (by rw [zUp_s, zUp_u] at h; exact h))
theorem g2_X1_madeAt (X : zC p m c cc nL s args own D k a) {i j t : Nat} (hi : i < 6) (hj : j < 6) (hij : j ≠ i) (ht : t < 12) (hH : zH D k a s (zUp g i v) H locs) {idx : Nat} (hl : .fieldLink own idx "KeptPlans$Plan" "madeAt" "I" ∈ GW) (hdg : decode cc pc = .ok (.getfield idx, 3))
    (kk : W p l e R s m args below meth c H locs cells slots Q (F0 m (pc + 3) ls (.int (g j (13 + 11 * t + 6)) :: rest))) : W p l e R s m args below meth c H locs cells slots Q (F0 m pc ls (.ref (a j (8 + t)) :: rest)) :=
  gf_X1_madeAt X hH hj ht hl hdg (by rw [zUp_n _ _ hij]; exact kk)
theorem p2_X1_madeAt (X : zC p m c cc nL s args own D k a) {i t : Nat} (hi : i < 6) (ht : t < 12) (hH : zH D k a s (zUp g i v) H locs) {idx : Nat} {x : Int32} (hl : .fieldLink own idx "KeptPlans$Plan" "madeAt" "I" ∈ GW) (hdg : decode cc pc = .ok (.putfield idx, 3))
    (kk : ∀ (H : Heap) (locs : List Loc), zH D k a s (zUp g i (upd v (13 + 11 * t + 6) x)) H locs → W p l e R s m args below meth c H locs cells slots Q (F0 m (pc + 3) ls (rest))) : W p l e R s m args below meth c H locs cells slots Q (F0 m pc ls (.int x :: .ref (a i (8 + t)) :: rest)) :=
  pf_X1_madeAt X hH hi ht hl hdg (fun H1 locs1 h => kk H1 locs1 (by rw [zUp_s, zUp_u] at h; exact h))
theorem gn_X1_usedAt (X : zC p m c cc nL s args own D k a) (hH : zH D k a s (zUp g 0 v) H locs) {t : Nat} (ht : t < 12) {idx : Nat} (hl : .fieldLink own idx "KeptPlans$Plan" "usedAt" "I" ∈ GW) (hdg : decode cc pc = .ok (.getfield idx, 3))
    (kk : W p l e R s m args below meth c H locs cells slots Q (F0 m (pc + 3) ls (.int (v (13 + 11 * t + 7)) :: rest))) : W p l e R s m args below meth c H locs cells slots Q (F0 m pc ls (.ref (a 0 (8 + t)) :: rest)) :=
  gf_X1_usedAt X hH (by omega) ht hl hdg (by rw [zUp_s]; exact kk)
theorem pn_X1_usedAt (X : zC p m c cc nL s args own D k a) (hH : zH D k a s (zUp g 0 v) H locs) {t : Nat} (ht : t < 12) {idx : Nat} {x : Int32} (hl : .fieldLink own idx "KeptPlans$Plan" "usedAt" "I" ∈ GW) (hdg : decode cc pc = .ok (.putfield idx, 3))
    (kk : ∀ (H : Heap) (locs : List Loc), zH D k a s (zUp g 0 (upd v (13 + 11 * t + 7) x)) H locs → W p l e R s m args below meth c H locs cells slots Q (F0 m (pc + 3) ls (rest))) : W p l e R s m args below meth c H locs cells slots Q (F0 m pc ls (.int x :: .ref (a 0 (8 + t)) :: rest)) :=
  pf_X1_usedAt X hH (by omega) ht hl hdg (fun H1 locs1 h => kk H1 locs1 (by rw [zUp_s, zUp_u] at h; exact h))
theorem g2_X1_usedAt (X : zC p m c cc nL s args own D k a) {i j t : Nat} (hi : i < 6) (hj : j < 6) (hij : j ≠ i) (ht : t < 12) (hH : zH D k a s (zUp g i v) H locs) {idx : Nat} (hl : .fieldLink own idx "KeptPlans$Plan" "usedAt" "I" ∈ GW) (hdg : decode cc pc = .ok (.getfield idx, 3))
    (kk : W p l e R s m args below meth c H locs cells slots Q (F0 m (pc + 3) ls (.int (g j (13 + 11 * t + 7)) :: rest))) : W p l e R s m args below meth c H locs cells slots Q (F0 m pc ls (.ref (a j (8 + t)) :: rest)) :=
  gf_X1_usedAt X hH hj ht hl hdg (by rw [zUp_n _ _ hij]; exact kk)
theorem p2_X1_usedAt (X : zC p m c cc nL s args own D k a) {i t : Nat} (hi : i < 6) (ht : t < 12) (hH : zH D k a s (zUp g i v) H locs) {idx : Nat} {x : Int32} (hl : .fieldLink own idx "KeptPlans$Plan" "usedAt" "I" ∈ GW) (hdg : decode cc pc = .ok (.putfield idx, 3))
    (kk : ∀ (H : Heap) (locs : List Loc), zH D k a s (zUp g i (upd v (13 + 11 * t + 7) x)) H locs → W p l e R s m args below meth c H locs cells slots Q (F0 m (pc + 3) ls (rest))) : W p l e R s m args below meth c H locs cells slots Q (F0 m pc ls (.int x :: .ref (a i (8 + t)) :: rest)) :=
  pf_X1_usedAt X hH hi ht hl hdg (fun H1 locs1 h => kk H1 locs1 (by rw [zUp_s, zUp_u] at h; exact h))
theorem gn_X4_rows (X : zC p m c cc nL s args own D k a) (hH : zH D k a s (zUp g 0 v) H locs) {t : Nat} (ht : t < 4) {idx : Nat} (hl : .fieldLink own idx "KeptPlans$Table" "rows" "I" ∈ GW) (hdg : decode cc pc = .ok (.getfield idx, 3))
    (kk : W p l e R s m args below meth c H locs cells slots Q (F0 m (pc + 3) ls (.int (v t) :: rest))) : W p l e R s m args below meth c H locs cells slots Q (F0 m pc ls (.ref (a 0 (4 + t)) :: rest)) :=
  gf_X4_rows X hH (by omega) ht hl hdg (by rw [zUp_s]; exact kk)
theorem pn_X4_rows (X : zC p m c cc nL s args own D k a) (hH : zH D k a s (zUp g 0 v) H locs) {t : Nat} (ht : t < 4) {idx : Nat} {x : Int32} (hl : .fieldLink own idx "KeptPlans$Table" "rows" "I" ∈ GW) (hdg : decode cc pc = .ok (.putfield idx, 3))
    (kk : ∀ (H : Heap) (locs : List Loc), zH D k a s (zUp g 0 (upd v t x)) H locs → W p l e R s m args below meth c H locs cells slots Q (F0 m (pc + 3) ls (rest))) : W p l e R s m args below meth c H locs cells slots Q (F0 m pc ls (.int x :: .ref (a 0 (4 + t)) :: rest)) :=
  pf_X4_rows X hH (by omega) ht hl hdg (fun H1 locs1 h => kk H1 locs1 (by rw [zUp_s, zUp_u] at h; exact h))
theorem g2_X4_rows (X : zC p m c cc nL s args own D k a) {i j t : Nat} (hi : i < 6) (hj : j < 6) (hij : j ≠ i) (ht : t < 4) (hH : zH D k a s (zUp g i v) H locs) {idx : Nat} (hl : .fieldLink own idx "KeptPlans$Table" "rows" "I" ∈ GW) (hdg : decode cc pc = .ok (.getfield idx, 3))
    (kk : W p l e R s m args below meth c H locs cells slots Q (F0 m (pc + 3) ls (.int (g j t) :: rest))) : W p l e R s m args below meth c H locs cells slots Q (F0 m pc ls (.ref (a j (4 + t)) :: rest)) :=
  gf_X4_rows X hH hj ht hl hdg (by rw [zUp_n _ _ hij]; exact kk)
theorem p2_X4_rows (X : zC p m c cc nL s args own D k a) {i t : Nat} (hi : i < 6) (ht : t < 4) (hH : zH D k a s (zUp g i v) H locs) {idx : Nat} {x : Int32} (hl : .fieldLink own idx "KeptPlans$Table" "rows" "I" ∈ GW) (hdg : decode cc pc = .ok (.putfield idx, 3))
    (kk : ∀ (H : Heap) (locs : List Loc), zH D k a s (zUp g i (upd v t x)) H locs → W p l e R s m args below meth c H locs cells slots Q (F0 m (pc + 3) ls (rest))) : W p l e R s m args below meth c H locs cells slots Q (F0 m pc ls (.int x :: .ref (a i (4 + t)) :: rest)) :=
  pf_X4_rows X hH hi ht hl hdg (fun H1 locs1 h => kk H1 locs1 (by rw [zUp_s, zUp_u] at h; exact h))
theorem gn_X4_keys (X : zC p m c cc nL s args own D k a) (hH : zH D k a s (zUp g 0 v) H locs) {t : Nat} (ht : t < 4) {idx : Nat} (hl : .fieldLink own idx "KeptPlans$Table" "keys" "I" ∈ GW) (hdg : decode cc pc = .ok (.getfield idx, 3))
    (kk : W p l e R s m args below meth c H locs cells slots Q (F0 m (pc + 3) ls (.int (v (4 + t)) :: rest))) : W p l e R s m args below meth c H locs cells slots Q (F0 m pc ls (.ref (a 0 (4 + t)) :: rest)) :=
  gf_X4_keys X hH (by omega) ht hl hdg (by rw [zUp_s]; exact kk)
theorem pn_X4_keys (X : zC p m c cc nL s args own D k a) (hH : zH D k a s (zUp g 0 v) H locs) {t : Nat} (ht : t < 4) {idx : Nat} {x : Int32} (hl : .fieldLink own idx "KeptPlans$Table" "keys" "I" ∈ GW) (hdg : decode cc pc = .ok (.putfield idx, 3))
    (kk : ∀ (H : Heap) (locs : List Loc), zH D k a s (zUp g 0 (upd v (4 + t) x)) H locs → W p l e R s m args below meth c H locs cells slots Q (F0 m (pc + 3) ls (rest))) : W p l e R s m args below meth c H locs cells slots Q (F0 m pc ls (.int x :: .ref (a 0 (4 + t)) :: rest)) :=
  pf_X4_keys X hH (by omega) ht hl hdg (fun H1 locs1 h => kk H1 locs1 (by rw [zUp_s, zUp_u] at h; exact h))
theorem g2_X4_keys (X : zC p m c cc nL s args own D k a) {i j t : Nat} (hi : i < 6) (hj : j < 6) (hij : j ≠ i) (ht : t < 4) (hH : zH D k a s (zUp g i v) H locs) {idx : Nat} (hl : .fieldLink own idx "KeptPlans$Table" "keys" "I" ∈ GW) (hdg : decode cc pc = .ok (.getfield idx, 3))
    (kk : W p l e R s m args below meth c H locs cells slots Q (F0 m (pc + 3) ls (.int (g j (4 + t)) :: rest))) : W p l e R s m args below meth c H locs cells slots Q (F0 m pc ls (.ref (a j (4 + t)) :: rest)) :=
  gf_X4_keys X hH hj ht hl hdg (by rw [zUp_n _ _ hij]; exact kk)
theorem p2_X4_keys (X : zC p m c cc nL s args own D k a) {i t : Nat} (hi : i < 6) (ht : t < 4) (hH : zH D k a s (zUp g i v) H locs) {idx : Nat} {x : Int32} (hl : .fieldLink own idx "KeptPlans$Table" "keys" "I" ∈ GW) (hdg : decode cc pc = .ok (.putfield idx, 3))
    (kk : ∀ (H : Heap) (locs : List Loc), zH D k a s (zUp g i (upd v (4 + t) x)) H locs → W p l e R s m args below meth c H locs cells slots Q (F0 m (pc + 3) ls (rest))) : W p l e R s m args below meth c H locs cells slots Q (F0 m pc ls (.int x :: .ref (a i (4 + t)) :: rest)) :=
  pf_X4_keys X hH hi ht hl hdg (fun H1 locs1 h => kk H1 locs1 (by rw [zUp_s, zUp_u] at h; exact h))
theorem gn_X4_questions (X : zC p m c cc nL s args own D k a) (hH : zH D k a s (zUp g 0 v) H locs) {t : Nat} (ht : t < 4) {idx : Nat} (hl : .fieldLink own idx "KeptPlans$Table" "questions" "I" ∈ GW) (hdg : decode cc pc = .ok (.getfield idx, 3))
    (kk : W p l e R s m args below meth c H locs cells slots Q (F0 m (pc + 3) ls (.int (v (152 + t)) :: rest))) : W p l e R s m args below meth c H locs cells slots Q (F0 m pc ls (.ref (a 0 (4 + t)) :: rest)) :=
  gf_X4_questions X hH (by omega) ht hl hdg (by rw [zUp_s]; exact kk)
theorem pn_X4_questions (X : zC p m c cc nL s args own D k a) (hH : zH D k a s (zUp g 0 v) H locs) {t : Nat} (ht : t < 4) {idx : Nat} {x : Int32} (hl : .fieldLink own idx "KeptPlans$Table" "questions" "I" ∈ GW) (hdg : decode cc pc = .ok (.putfield idx, 3))
    (kk : ∀ (H : Heap) (locs : List Loc), zH D k a s (zUp g 0 (upd v (152 + t) x)) H locs → W p l e R s m args below meth c H locs cells slots Q (F0 m (pc + 3) ls (rest))) : W p l e R s m args below meth c H locs cells slots Q (F0 m pc ls (.int x :: .ref (a 0 (4 + t)) :: rest)) :=
  pf_X4_questions X hH (by omega) ht hl hdg (fun H1 locs1 h => kk H1 locs1 (by rw [zUp_s, zUp_u] at h; exact h))
theorem g2_X4_questions (X : zC p m c cc nL s args own D k a) {i j t : Nat} (hi : i < 6) (hj : j < 6) (hij : j ≠ i) (ht : t < 4) (hH : zH D k a s (zUp g i v) H locs) {idx : Nat} (hl : .fieldLink own idx "KeptPlans$Table" "questions" "I" ∈ GW) (hdg : decode cc pc = .ok (.getfield idx, 3))
    (kk : W p l e R s m args below meth c H locs cells slots Q (F0 m (pc + 3) ls (.int (g j (152 + t)) :: rest))) : W p l e R s m args below meth c H locs cells slots Q (F0 m pc ls (.ref (a j (4 + t)) :: rest)) :=
  gf_X4_questions X hH hj ht hl hdg (by rw [zUp_n _ _ hij]; exact kk)
theorem p2_X4_questions (X : zC p m c cc nL s args own D k a) {i t : Nat} (hi : i < 6) (ht : t < 4) (hH : zH D k a s (zUp g i v) H locs) {idx : Nat} {x : Int32} (hl : .fieldLink own idx "KeptPlans$Table" "questions" "I" ∈ GW) (hdg : decode cc pc = .ok (.putfield idx, 3))
    (kk : ∀ (H : Heap) (locs : List Loc), zH D k a s (zUp g i (upd v (152 + t) x)) H locs → W p l e R s m args below meth c H locs cells slots Q (F0 m (pc + 3) ls (rest))) : W p l e R s m args below meth c H locs cells slots Q (F0 m pc ls (.int x :: .ref (a i (4 + t)) :: rest)) :=
  pf_X4_questions X hH hi ht hl hdg (fun H1 locs1 h => kk H1 locs1 (by rw [zUp_s, zUp_u] at h; exact h))
theorem gn_X4_spent (X : zC p m c cc nL s args own D k a) (hH : zH D k a s (zUp g 0 v) H locs) {t : Nat} (ht : t < 4) {idx : Nat} (hl : .fieldLink own idx "KeptPlans$Table" "spent" "I" ∈ GW) (hdg : decode cc pc = .ok (.getfield idx, 3))
    (kk : W p l e R s m args below meth c H locs cells slots Q (F0 m (pc + 3) ls (.int (v (156 + t)) :: rest))) : W p l e R s m args below meth c H locs cells slots Q (F0 m pc ls (.ref (a 0 (4 + t)) :: rest)) :=
  gf_X4_spent X hH (by omega) ht hl hdg (by rw [zUp_s]; exact kk)
theorem pn_X4_spent (X : zC p m c cc nL s args own D k a) (hH : zH D k a s (zUp g 0 v) H locs) {t : Nat} (ht : t < 4) {idx : Nat} {x : Int32} (hl : .fieldLink own idx "KeptPlans$Table" "spent" "I" ∈ GW) (hdg : decode cc pc = .ok (.putfield idx, 3))
    (kk : ∀ (H : Heap) (locs : List Loc), zH D k a s (zUp g 0 (upd v (156 + t) x)) H locs → W p l e R s m args below meth c H locs cells slots Q (F0 m (pc + 3) ls (rest))) : W p l e R s m args below meth c H locs cells slots Q (F0 m pc ls (.int x :: .ref (a 0 (4 + t)) :: rest)) :=
  pf_X4_spent X hH (by omega) ht hl hdg (fun H1 locs1 h => kk H1 locs1 (by rw [zUp_s, zUp_u] at h; exact h))
theorem g2_X4_spent (X : zC p m c cc nL s args own D k a) {i j t : Nat} (hi : i < 6) (hj : j < 6) (hij : j ≠ i) (ht : t < 4) (hH : zH D k a s (zUp g i v) H locs) {idx : Nat} (hl : .fieldLink own idx "KeptPlans$Table" "spent" "I" ∈ GW) (hdg : decode cc pc = .ok (.getfield idx, 3))
    (kk : W p l e R s m args below meth c H locs cells slots Q (F0 m (pc + 3) ls (.int (g j (156 + t)) :: rest))) : W p l e R s m args below meth c H locs cells slots Q (F0 m pc ls (.ref (a j (4 + t)) :: rest)) :=
  gf_X4_spent X hH hj ht hl hdg (by rw [zUp_n _ _ hij]; exact kk)
theorem p2_X4_spent (X : zC p m c cc nL s args own D k a) {i t : Nat} (hi : i < 6) (ht : t < 4) (hH : zH D k a s (zUp g i v) H locs) {idx : Nat} {x : Int32} (hl : .fieldLink own idx "KeptPlans$Table" "spent" "I" ∈ GW) (hdg : decode cc pc = .ok (.putfield idx, 3))
    (kk : ∀ (H : Heap) (locs : List Loc), zH D k a s (zUp g i (upd v (156 + t) x)) H locs → W p l e R s m args below meth c H locs cells slots Q (F0 m (pc + 3) ls (rest))) : W p l e R s m args below meth c H locs cells slots Q (F0 m pc ls (.int x :: .ref (a i (4 + t)) :: rest)) :=
  pf_X4_spent X hH hi ht hl hdg (fun H1 locs1 h => kk H1 locs1 (by rw [zUp_s, zUp_u] at h; exact h))
theorem gn_X3_questions (X : zC p m c cc nL s args own D k a) (hH : zH D k a s (zUp g 0 v) H locs)  {idx : Nat} (hl : .fieldLink own idx "KeptPlans$State" "questions" "I" ∈ GW) (hdg : decode cc pc = .ok (.getfield idx, 3))
    (kk : W p l e R s m args below meth c H locs cells slots Q (F0 m (pc + 3) ls (.int (v 145) :: rest))) : W p l e R s m args below meth c H locs cells slots Q (F0 m pc ls (.ref (a 0 0) :: rest)) :=
  gf_X3_questions X hH (by omega) hl hdg (by rw [zUp_s]; exact kk)
theorem pn_X3_questions (X : zC p m c cc nL s args own D k a) (hH : zH D k a s (zUp g 0 v) H locs)  {idx : Nat} {x : Int32} (hl : .fieldLink own idx "KeptPlans$State" "questions" "I" ∈ GW) (hdg : decode cc pc = .ok (.putfield idx, 3))
    (kk : ∀ (H : Heap) (locs : List Loc), zH D k a s (zUp g 0 (upd v 145 x)) H locs → W p l e R s m args below meth c H locs cells slots Q (F0 m (pc + 3) ls (rest))) : W p l e R s m args below meth c H locs cells slots Q (F0 m pc ls (.int x :: .ref (a 0 0) :: rest)) :=
  pf_X3_questions X hH (by omega) hl hdg (fun H1 locs1 h => kk H1 locs1 (by rw [zUp_s, zUp_u] at h; exact h))
theorem g2_X3_questions (X : zC p m c cc nL s args own D k a) {i j : Nat} (hi : i < 6) (hj : j < 6) (hij : j ≠ i) (hH : zH D k a s (zUp g i v) H locs) {idx : Nat} (hl : .fieldLink own idx "KeptPlans$State" "questions" "I" ∈ GW) (hdg : decode cc pc = .ok (.getfield idx, 3))
    (kk : W p l e R s m args below meth c H locs cells slots Q (F0 m (pc + 3) ls (.int (g j 145) :: rest))) : W p l e R s m args below meth c H locs cells slots Q (F0 m pc ls (.ref (a j 0) :: rest)) :=
  gf_X3_questions X hH hj hl hdg (by rw [zUp_n _ _ hij]; exact kk)
theorem p2_X3_questions (X : zC p m c cc nL s args own D k a) {i : Nat} (hi : i < 6) (hH : zH D k a s (zUp g i v) H locs) {idx : Nat} {x : Int32} (hl : .fieldLink own idx "KeptPlans$State" "questions" "I" ∈ GW) (hdg : decode cc pc = .ok (.putfield idx, 3))
    (kk : ∀ (H : Heap) (locs : List Loc), zH D k a s (zUp g i (upd v 145 x)) H locs → W p l e R s m args below meth c H locs cells slots Q (F0 m (pc + 3) ls (rest))) : W p l e R s m args below meth c H locs cells slots Q (F0 m pc ls (.int x :: .ref (a i 0) :: rest)) :=
  pf_X3_questions X hH hi hl hdg (fun H1 locs1 h => kk H1 locs1 (by rw [zUp_s, zUp_u] at h; exact h))
theorem gn_X3_hits (X : zC p m c cc nL s args own D k a) (hH : zH D k a s (zUp g 0 v) H locs)  {idx : Nat} (hl : .fieldLink own idx "KeptPlans$State" "hits" "I" ∈ GW) (hdg : decode cc pc = .ok (.getfield idx, 3))
    (kk : W p l e R s m args below meth c H locs cells slots Q (F0 m (pc + 3) ls (.int (v 146) :: rest))) : W p l e R s m args below meth c H locs cells slots Q (F0 m pc ls (.ref (a 0 0) :: rest)) :=
  gf_X3_hits X hH (by omega) hl hdg (by rw [zUp_s]; exact kk)
theorem pn_X3_hits (X : zC p m c cc nL s args own D k a) (hH : zH D k a s (zUp g 0 v) H locs)  {idx : Nat} {x : Int32} (hl : .fieldLink own idx "KeptPlans$State" "hits" "I" ∈ GW) (hdg : decode cc pc = .ok (.putfield idx, 3))
    (kk : ∀ (H : Heap) (locs : List Loc), zH D k a s (zUp g 0 (upd v 146 x)) H locs → W p l e R s m args below meth c H locs cells slots Q (F0 m (pc + 3) ls (rest))) : W p l e R s m args below meth c H locs cells slots Q (F0 m pc ls (.int x :: .ref (a 0 0) :: rest)) :=
  pf_X3_hits X hH (by omega) hl hdg (fun H1 locs1 h => kk H1 locs1 (by rw [zUp_s, zUp_u] at h; exact h))
theorem g2_X3_hits (X : zC p m c cc nL s args own D k a) {i j : Nat} (hi : i < 6) (hj : j < 6) (hij : j ≠ i) (hH : zH D k a s (zUp g i v) H locs) {idx : Nat} (hl : .fieldLink own idx "KeptPlans$State" "hits" "I" ∈ GW) (hdg : decode cc pc = .ok (.getfield idx, 3))
    (kk : W p l e R s m args below meth c H locs cells slots Q (F0 m (pc + 3) ls (.int (g j 146) :: rest))) : W p l e R s m args below meth c H locs cells slots Q (F0 m pc ls (.ref (a j 0) :: rest)) :=
  gf_X3_hits X hH hj hl hdg (by rw [zUp_n _ _ hij]; exact kk)
theorem p2_X3_hits (X : zC p m c cc nL s args own D k a) {i : Nat} (hi : i < 6) (hH : zH D k a s (zUp g i v) H locs) {idx : Nat} {x : Int32} (hl : .fieldLink own idx "KeptPlans$State" "hits" "I" ∈ GW) (hdg : decode cc pc = .ok (.putfield idx, 3))
    (kk : ∀ (H : Heap) (locs : List Loc), zH D k a s (zUp g i (upd v 146 x)) H locs → W p l e R s m args below meth c H locs cells slots Q (F0 m (pc + 3) ls (rest))) : W p l e R s m args below meth c H locs cells slots Q (F0 m pc ls (.int x :: .ref (a i 0) :: rest)) :=
  pf_X3_hits X hH hi hl hdg (fun H1 locs1 h => kk H1 locs1 (by rw [zUp_s, zUp_u] at h; exact h))
theorem gn_X3_misses (X : zC p m c cc nL s args own D k a) (hH : zH D k a s (zUp g 0 v) H locs)  {idx : Nat} (hl : .fieldLink own idx "KeptPlans$State" "misses" "I" ∈ GW) (hdg : decode cc pc = .ok (.getfield idx, 3))
    (kk : W p l e R s m args below meth c H locs cells slots Q (F0 m (pc + 3) ls (.int (v 147) :: rest))) : W p l e R s m args below meth c H locs cells slots Q (F0 m pc ls (.ref (a 0 0) :: rest)) :=
  gf_X3_misses X hH (by omega) hl hdg (by rw [zUp_s]; exact kk)
theorem pn_X3_misses (X : zC p m c cc nL s args own D k a) (hH : zH D k a s (zUp g 0 v) H locs)  {idx : Nat} {x : Int32} (hl : .fieldLink own idx "KeptPlans$State" "misses" "I" ∈ GW) (hdg : decode cc pc = .ok (.putfield idx, 3))
    (kk : ∀ (H : Heap) (locs : List Loc), zH D k a s (zUp g 0 (upd v 147 x)) H locs → W p l e R s m args below meth c H locs cells slots Q (F0 m (pc + 3) ls (rest))) : W p l e R s m args below meth c H locs cells slots Q (F0 m pc ls (.int x :: .ref (a 0 0) :: rest)) :=
  pf_X3_misses X hH (by omega) hl hdg (fun H1 locs1 h => kk H1 locs1 (by rw [zUp_s, zUp_u] at h; exact h))
theorem g2_X3_misses (X : zC p m c cc nL s args own D k a) {i j : Nat} (hi : i < 6) (hj : j < 6) (hij : j ≠ i) (hH : zH D k a s (zUp g i v) H locs) {idx : Nat} (hl : .fieldLink own idx "KeptPlans$State" "misses" "I" ∈ GW) (hdg : decode cc pc = .ok (.getfield idx, 3))
    (kk : W p l e R s m args below meth c H locs cells slots Q (F0 m (pc + 3) ls (.int (g j 147) :: rest))) : W p l e R s m args below meth c H locs cells slots Q (F0 m pc ls (.ref (a j 0) :: rest)) :=
  gf_X3_misses X hH hj hl hdg (by rw [zUp_n _ _ hij]; exact kk)
theorem p2_X3_misses (X : zC p m c cc nL s args own D k a) {i : Nat} (hi : i < 6) (hH : zH D k a s (zUp g i v) H locs) {idx : Nat} {x : Int32} (hl : .fieldLink own idx "KeptPlans$State" "misses" "I" ∈ GW) (hdg : decode cc pc = .ok (.putfield idx, 3))
    (kk : ∀ (H : Heap) (locs : List Loc), zH D k a s (zUp g i (upd v 147 x)) H locs → W p l e R s m args below meth c H locs cells slots Q (F0 m (pc + 3) ls (rest))) : W p l e R s m args below meth c H locs cells slots Q (F0 m pc ls (.int x :: .ref (a i 0) :: rest)) :=
  pf_X3_misses X hH hi hl hdg (fun H1 locs1 h => kk H1 locs1 (by rw [zUp_s, zUp_u] at h; exact h))
theorem gn_X3_spent (X : zC p m c cc nL s args own D k a) (hH : zH D k a s (zUp g 0 v) H locs)  {idx : Nat} (hl : .fieldLink own idx "KeptPlans$State" "spent" "I" ∈ GW) (hdg : decode cc pc = .ok (.getfield idx, 3))
    (kk : W p l e R s m args below meth c H locs cells slots Q (F0 m (pc + 3) ls (.int (v 148) :: rest))) : W p l e R s m args below meth c H locs cells slots Q (F0 m pc ls (.ref (a 0 0) :: rest)) :=
  gf_X3_spent X hH (by omega) hl hdg (by rw [zUp_s]; exact kk)
theorem pn_X3_spent (X : zC p m c cc nL s args own D k a) (hH : zH D k a s (zUp g 0 v) H locs)  {idx : Nat} {x : Int32} (hl : .fieldLink own idx "KeptPlans$State" "spent" "I" ∈ GW) (hdg : decode cc pc = .ok (.putfield idx, 3))
    (kk : ∀ (H : Heap) (locs : List Loc), zH D k a s (zUp g 0 (upd v 148 x)) H locs → W p l e R s m args below meth c H locs cells slots Q (F0 m (pc + 3) ls (rest))) : W p l e R s m args below meth c H locs cells slots Q (F0 m pc ls (.int x :: .ref (a 0 0) :: rest)) :=
  pf_X3_spent X hH (by omega) hl hdg (fun H1 locs1 h => kk H1 locs1 (by rw [zUp_s, zUp_u] at h; exact h))
theorem g2_X3_spent (X : zC p m c cc nL s args own D k a) {i j : Nat} (hi : i < 6) (hj : j < 6) (hij : j ≠ i) (hH : zH D k a s (zUp g i v) H locs) {idx : Nat} (hl : .fieldLink own idx "KeptPlans$State" "spent" "I" ∈ GW) (hdg : decode cc pc = .ok (.getfield idx, 3))
    (kk : W p l e R s m args below meth c H locs cells slots Q (F0 m (pc + 3) ls (.int (g j 148) :: rest))) : W p l e R s m args below meth c H locs cells slots Q (F0 m pc ls (.ref (a j 0) :: rest)) :=
  gf_X3_spent X hH hj hl hdg (by rw [zUp_n _ _ hij]; exact kk)
theorem p2_X3_spent (X : zC p m c cc nL s args own D k a) {i : Nat} (hi : i < 6) (hH : zH D k a s (zUp g i v) H locs) {idx : Nat} {x : Int32} (hl : .fieldLink own idx "KeptPlans$State" "spent" "I" ∈ GW) (hdg : decode cc pc = .ok (.putfield idx, 3))
    (kk : ∀ (H : Heap) (locs : List Loc), zH D k a s (zUp g i (upd v 148 x)) H locs → W p l e R s m args below meth c H locs cells slots Q (F0 m (pc + 3) ls (rest))) : W p l e R s m args below meth c H locs cells slots Q (F0 m pc ls (.int x :: .ref (a i 0) :: rest)) :=
  pf_X3_spent X hH hi hl hdg (fun H1 locs1 h => kk H1 locs1 (by rw [zUp_s, zUp_u] at h; exact h))
theorem gn_X3_spentLooking (X : zC p m c cc nL s args own D k a) (hH : zH D k a s (zUp g 0 v) H locs)  {idx : Nat} (hl : .fieldLink own idx "KeptPlans$State" "spentLooking" "I" ∈ GW) (hdg : decode cc pc = .ok (.getfield idx, 3))
    (kk : W p l e R s m args below meth c H locs cells slots Q (F0 m (pc + 3) ls (.int (v 149) :: rest))) : W p l e R s m args below meth c H locs cells slots Q (F0 m pc ls (.ref (a 0 0) :: rest)) :=
  gf_X3_spentLooking X hH (by omega) hl hdg (by rw [zUp_s]; exact kk)
theorem pn_X3_spentLooking (X : zC p m c cc nL s args own D k a) (hH : zH D k a s (zUp g 0 v) H locs)  {idx : Nat} {x : Int32} (hl : .fieldLink own idx "KeptPlans$State" "spentLooking" "I" ∈ GW) (hdg : decode cc pc = .ok (.putfield idx, 3))
    (kk : ∀ (H : Heap) (locs : List Loc), zH D k a s (zUp g 0 (upd v 149 x)) H locs → W p l e R s m args below meth c H locs cells slots Q (F0 m (pc + 3) ls (rest))) : W p l e R s m args below meth c H locs cells slots Q (F0 m pc ls (.int x :: .ref (a 0 0) :: rest)) :=
  pf_X3_spentLooking X hH (by omega) hl hdg (fun H1 locs1 h => kk H1 locs1 (by rw [zUp_s, zUp_u] at h; exact h))
theorem g2_X3_spentLooking (X : zC p m c cc nL s args own D k a) {i j : Nat} (hi : i < 6) (hj : j < 6) (hij : j ≠ i) (hH : zH D k a s (zUp g i v) H locs) {idx : Nat} (hl : .fieldLink own idx "KeptPlans$State" "spentLooking" "I" ∈ GW) (hdg : decode cc pc = .ok (.getfield idx, 3))
    (kk : W p l e R s m args below meth c H locs cells slots Q (F0 m (pc + 3) ls (.int (g j 149) :: rest))) : W p l e R s m args below meth c H locs cells slots Q (F0 m pc ls (.ref (a j 0) :: rest)) :=
  gf_X3_spentLooking X hH hj hl hdg (by rw [zUp_n _ _ hij]; exact kk)
theorem p2_X3_spentLooking (X : zC p m c cc nL s args own D k a) {i : Nat} (hi : i < 6) (hH : zH D k a s (zUp g i v) H locs) {idx : Nat} {x : Int32} (hl : .fieldLink own idx "KeptPlans$State" "spentLooking" "I" ∈ GW) (hdg : decode cc pc = .ok (.putfield idx, 3))
    (kk : ∀ (H : Heap) (locs : List Loc), zH D k a s (zUp g i (upd v 149 x)) H locs → W p l e R s m args below meth c H locs cells slots Q (F0 m (pc + 3) ls (rest))) : W p l e R s m args below meth c H locs cells slots Q (F0 m pc ls (.int x :: .ref (a i 0) :: rest)) :=
  pf_X3_spentLooking X hH hi hl hdg (fun H1 locs1 h => kk H1 locs1 (by rw [zUp_s, zUp_u] at h; exact h))
theorem gn_X3_turnedBad (X : zC p m c cc nL s args own D k a) (hH : zH D k a s (zUp g 0 v) H locs)  {idx : Nat} (hl : .fieldLink own idx "KeptPlans$State" "turnedBad" "I" ∈ GW) (hdg : decode cc pc = .ok (.getfield idx, 3))
    (kk : W p l e R s m args below meth c H locs cells slots Q (F0 m (pc + 3) ls (.int (v 150) :: rest))) : W p l e R s m args below meth c H locs cells slots Q (F0 m pc ls (.ref (a 0 0) :: rest)) :=
  gf_X3_turnedBad X hH (by omega) hl hdg (by rw [zUp_s]; exact kk)
theorem pn_X3_turnedBad (X : zC p m c cc nL s args own D k a) (hH : zH D k a s (zUp g 0 v) H locs)  {idx : Nat} {x : Int32} (hl : .fieldLink own idx "KeptPlans$State" "turnedBad" "I" ∈ GW) (hdg : decode cc pc = .ok (.putfield idx, 3))
    (kk : ∀ (H : Heap) (locs : List Loc), zH D k a s (zUp g 0 (upd v 150 x)) H locs → W p l e R s m args below meth c H locs cells slots Q (F0 m (pc + 3) ls (rest))) : W p l e R s m args below meth c H locs cells slots Q (F0 m pc ls (.int x :: .ref (a 0 0) :: rest)) :=
  pf_X3_turnedBad X hH (by omega) hl hdg (fun H1 locs1 h => kk H1 locs1 (by rw [zUp_s, zUp_u] at h; exact h))
theorem g2_X3_turnedBad (X : zC p m c cc nL s args own D k a) {i j : Nat} (hi : i < 6) (hj : j < 6) (hij : j ≠ i) (hH : zH D k a s (zUp g i v) H locs) {idx : Nat} (hl : .fieldLink own idx "KeptPlans$State" "turnedBad" "I" ∈ GW) (hdg : decode cc pc = .ok (.getfield idx, 3))
    (kk : W p l e R s m args below meth c H locs cells slots Q (F0 m (pc + 3) ls (.int (g j 150) :: rest))) : W p l e R s m args below meth c H locs cells slots Q (F0 m pc ls (.ref (a j 0) :: rest)) :=
  gf_X3_turnedBad X hH hj hl hdg (by rw [zUp_n _ _ hij]; exact kk)
theorem p2_X3_turnedBad (X : zC p m c cc nL s args own D k a) {i : Nat} (hi : i < 6) (hH : zH D k a s (zUp g i v) H locs) {idx : Nat} {x : Int32} (hl : .fieldLink own idx "KeptPlans$State" "turnedBad" "I" ∈ GW) (hdg : decode cc pc = .ok (.putfield idx, 3))
    (kk : ∀ (H : Heap) (locs : List Loc), zH D k a s (zUp g i (upd v 150 x)) H locs → W p l e R s m args below meth c H locs cells slots Q (F0 m (pc + 3) ls (rest))) : W p l e R s m args below meth c H locs cells slots Q (F0 m pc ls (.int x :: .ref (a i 0) :: rest)) :=
  pf_X3_turnedBad X hH hi hl hdg (fun H1 locs1 h => kk H1 locs1 (by rw [zUp_s, zUp_u] at h; exact h))
theorem gn_X3_crowdedOut (X : zC p m c cc nL s args own D k a) (hH : zH D k a s (zUp g 0 v) H locs)  {idx : Nat} (hl : .fieldLink own idx "KeptPlans$State" "crowdedOut" "I" ∈ GW) (hdg : decode cc pc = .ok (.getfield idx, 3))
    (kk : W p l e R s m args below meth c H locs cells slots Q (F0 m (pc + 3) ls (.int (v 151) :: rest))) : W p l e R s m args below meth c H locs cells slots Q (F0 m pc ls (.ref (a 0 0) :: rest)) :=
  gf_X3_crowdedOut X hH (by omega) hl hdg (by rw [zUp_s]; exact kk)
theorem pn_X3_crowdedOut (X : zC p m c cc nL s args own D k a) (hH : zH D k a s (zUp g 0 v) H locs)  {idx : Nat} {x : Int32} (hl : .fieldLink own idx "KeptPlans$State" "crowdedOut" "I" ∈ GW) (hdg : decode cc pc = .ok (.putfield idx, 3))
    (kk : ∀ (H : Heap) (locs : List Loc), zH D k a s (zUp g 0 (upd v 151 x)) H locs → W p l e R s m args below meth c H locs cells slots Q (F0 m (pc + 3) ls (rest))) : W p l e R s m args below meth c H locs cells slots Q (F0 m pc ls (.int x :: .ref (a 0 0) :: rest)) :=
  pf_X3_crowdedOut X hH (by omega) hl hdg (fun H1 locs1 h => kk H1 locs1 (by rw [zUp_s, zUp_u] at h; exact h))
theorem g2_X3_crowdedOut (X : zC p m c cc nL s args own D k a) {i j : Nat} (hi : i < 6) (hj : j < 6) (hij : j ≠ i) (hH : zH D k a s (zUp g i v) H locs) {idx : Nat} (hl : .fieldLink own idx "KeptPlans$State" "crowdedOut" "I" ∈ GW) (hdg : decode cc pc = .ok (.getfield idx, 3))
    (kk : W p l e R s m args below meth c H locs cells slots Q (F0 m (pc + 3) ls (.int (g j 151) :: rest))) : W p l e R s m args below meth c H locs cells slots Q (F0 m pc ls (.ref (a j 0) :: rest)) :=
  gf_X3_crowdedOut X hH hj hl hdg (by rw [zUp_n _ _ hij]; exact kk)
theorem p2_X3_crowdedOut (X : zC p m c cc nL s args own D k a) {i : Nat} (hi : i < 6) (hH : zH D k a s (zUp g i v) H locs) {idx : Nat} {x : Int32} (hl : .fieldLink own idx "KeptPlans$State" "crowdedOut" "I" ∈ GW) (hdg : decode cc pc = .ok (.putfield idx, 3))
    (kk : ∀ (H : Heap) (locs : List Loc), zH D k a s (zUp g i (upd v 151 x)) H locs → W p l e R s m args below meth c H locs cells slots Q (F0 m (pc + 3) ls (rest))) : W p l e R s m args below meth c H locs cells slots Q (F0 m pc ls (.int x :: .ref (a i 0) :: rest)) :=
  pf_X3_crowdedOut X hH hi hl hdg (fun H1 locs1 h => kk H1 locs1 (by rw [zUp_s, zUp_u] at h; exact h))
theorem gt_X2_length (X : zC p m c cc nL s args own D k a) (hH : zH D k a s (zT g u w tt n) H locs) {idx : Nat} (hl : .fieldLink own idx "KeptPlans$QuestionText" "length" "I" ∈ GW) (hdg : decode cc pc = .ok (.getfield idx, 3))
    (kk : W p l e R s m args below meth c H locs cells slots Q (F0 m (pc + 3) ls (.int (u 2) :: rest))) : W p l e R s m args below meth c H locs cells slots Q (F0 m pc ls (.ref (a 6 3) :: rest)) :=
  gf_X2_length X hH hl hdg (by rw [zT_6]; exact kk)
theorem pt_X2_length (X : zC p m c cc nL s args own D k a) (hH : zH D k a s (zT g u w tt n) H locs) {idx : Nat} {x : Int32} (hl : .fieldLink own idx "KeptPlans$QuestionText" "length" "I" ∈ GW) (hdg : decode cc pc = .ok (.putfield idx, 3))
    (kk : ∀ (H : Heap) (locs : List Loc), zH D k a s (zT g (upd u 2 x) w tt n) H locs → W p l e R s m args below meth c H locs cells slots Q (F0 m (pc + 3) ls (rest))) : W p l e R s m args below meth c H locs cells slots Q (F0 m pc ls (.int x :: .ref (a 6 3) :: rest)) :=
  pf_X2_length X hH hl hdg (fun H1 locs1 h => kk H1 locs1 (by rw [zT_6, zT_p6] at h; exact h))
theorem gt_X2_lines (X : zC p m c cc nL s args own D k a) (hH : zH D k a s (zT g u w tt n) H locs) {idx : Nat} (hl : .fieldLink own idx "KeptPlans$QuestionText" "lines" "I" ∈ GW) (hdg : decode cc pc = .ok (.getfield idx, 3))
    (kk : W p l e R s m args below meth c H locs cells slots Q (F0 m (pc + 3) ls (.int (u 3) :: rest))) : W p l e R s m args below meth c H locs cells slots Q (F0 m pc ls (.ref (a 6 3) :: rest)) :=
  gf_X2_lines X hH hl hdg (by rw [zT_6]; exact kk)
theorem pt_X2_lines (X : zC p m c cc nL s args own D k a) (hH : zH D k a s (zT g u w tt n) H locs) {idx : Nat} {x : Int32} (hl : .fieldLink own idx "KeptPlans$QuestionText" "lines" "I" ∈ GW) (hdg : decode cc pc = .ok (.putfield idx, 3))
    (kk : ∀ (H : Heap) (locs : List Loc), zH D k a s (zT g (upd u 3 x) w tt n) H locs → W p l e R s m args below meth c H locs cells slots Q (F0 m (pc + 3) ls (rest))) : W p l e R s m args below meth c H locs cells slots Q (F0 m pc ls (.int x :: .ref (a 6 3) :: rest)) :=
  pf_X2_lines X hH hl hdg (fun H1 locs1 h => kk H1 locs1 (by rw [zT_6, zT_p6] at h; exact h))
theorem gt_X2_at (X : zC p m c cc nL s args own D k a) (hH : zH D k a s (zT g u w tt n) H locs) {idx : Nat} (hl : .fieldLink own idx "KeptPlans$QuestionText" "at" "I" ∈ GW) (hdg : decode cc pc = .ok (.getfield idx, 3))
    (kk : W p l e R s m args below meth c H locs cells slots Q (F0 m (pc + 3) ls (.int (u 4) :: rest))) : W p l e R s m args below meth c H locs cells slots Q (F0 m pc ls (.ref (a 6 3) :: rest)) :=
  gf_X2_at X hH hl hdg (by rw [zT_6]; exact kk)
theorem pt_X2_at (X : zC p m c cc nL s args own D k a) (hH : zH D k a s (zT g u w tt n) H locs) {idx : Nat} {x : Int32} (hl : .fieldLink own idx "KeptPlans$QuestionText" "at" "I" ∈ GW) (hdg : decode cc pc = .ok (.putfield idx, 3))
    (kk : ∀ (H : Heap) (locs : List Loc), zH D k a s (zT g (upd u 4 x) w tt n) H locs → W p l e R s m args below meth c H locs cells slots Q (F0 m (pc + 3) ls (rest))) : W p l e R s m args below meth c H locs cells slots Q (F0 m pc ls (.int x :: .ref (a 6 3) :: rest)) :=
  pf_X2_at X hH hl hdg (fun H1 locs1 h => kk H1 locs1 (by rw [zT_6, zT_p6] at h; exact h))
theorem an_sets (X : zC p m c cc nL s args own D k a) (hH : zH D k a s (zUp g 0 v) H locs) (j : Nat) (hj : j < 5) (hdg : decode cc pc = .ok (.iaload, 1)) (kk : W p l e R s m args below meth c H locs cells slots Q (F0 m (pc + 1) ls (.int (v (8 + j)) :: rest))) : W p l e R s m args below meth c H locs cells slots Q (F0 m pc ls (.int (nI j) :: .ref (a 0 3) :: rest)) :=
  ar_sets X hH (by omega) j hj hdg (by rw [zUp_s]; exact kk)
theorem at_words (X : zC p m c cc nL s args own D k a) (hH : zH D k a s (zT g u w tt n) H locs) (j : Nat) (hj : j < 11) (hdg : decode cc pc = .ok (.iaload, 1)) (kk : W p l e R s m args below meth c H locs cells slots Q (F0 m (pc + 1) ls (.int (w j) :: rest))) : W p l e R s m args below meth c H locs cells slots Q (F0 m pc ls (.int (nI j) :: .ref (a 6 5) :: rest)) :=
  ar_words X hH j hj hdg (by rw [zT_8]; exact kk)
theorem at_tables (X : zC p m c cc nL s args own D k a) (hH : zH D k a s (zT g u w tt n) H locs) (j : Nat) (hj : j < 11) (hdg : decode cc pc = .ok (.iaload, 1)) (kk : W p l e R s m args below meth c H locs cells slots Q (F0 m (pc + 1) ls (.int (tt j) :: rest))) : W p l e R s m args below meth c H locs cells slots Q (F0 m pc ls (.int (nI j) :: .ref (a 6 6) :: rest)) :=
  ar_tables X hH j hj hdg (by rw [zT_9]; exact kk)
theorem at_numbers (X : zC p m c cc nL s args own D k a) (hH : zH D k a s (zT g u w tt n) H locs) (j : Nat) (hj : j < 11) (hdg : decode cc pc = .ok (.iaload, 1)) (kk : W p l e R s m args below meth c H locs cells slots Q (F0 m (pc + 1) ls (.int (n j) :: rest))) : W p l e R s m args below meth c H locs cells slots Q (F0 m pc ls (.int (nI j) :: .ref (a 6 7) :: rest)) :=
  ar_numbers X hH j hj hdg (by rw [zT_17]; exact kk)
theorem at_signs (X : zC p m c cc nL s args own D k a) (hH : zH D k a s (zT g u w tt n) H locs) (j : Nat) (hj : j < 80) (hdg : decode cc pc = .ok (.caload, 1)) (kk : W p l e R s m args below meth c H locs cells slots Q (F0 m (pc + 1) ls (.int (g 7 j) :: rest))) : W p l e R s m args below meth c H locs cells slots Q (F0 m pc ls (.int (nI j) :: .ref (a 6 4) :: rest)) :=
  ar_signs X hH j hj hdg (by rw [zT_7]; exact kk)
theorem a2_sets (X : zC p m c cc nL s args own D k a) {i j : Nat} (hi : i < 6) (hj : j < 6) (hij : j ≠ i) (hH : zH D k a s (zUp g i v) H locs) (q : Nat) (hq : q < 5) (hdg : decode cc pc = .ok (.iaload, 1)) (kk : W p l e R s m args below meth c H locs cells slots Q (F0 m (pc + 1) ls (.int (g j (8 + q)) :: rest))) : W p l e R s m args below meth c H locs cells slots Q (F0 m pc ls (.int (nI q) :: .ref (a j 3) :: rest)) :=
  ar_sets X hH hj q hq hdg (by rw [zUp_n _ _ hij]; exact kk)
theorem s2_sets (X : zC p m c cc nL s args own D k a) {i : Nat} (hi : i < 6) (hH : zH D k a s (zUp g i v) H locs) (q : Nat) (hq : q < 5) {x : Int32} (hdg : decode cc pc = .ok (.iastore, 1)) (kk : ∀ (H : Heap) (locs : List Loc), zH D k a s (zUp g i (upd v (8 + q) x)) H locs → W p l e R s m args below meth c H locs cells slots Q (F0 m (pc + 1) ls (rest))) : W p l e R s m args below meth c H locs cells slots Q (F0 m pc ls (.int x :: .int (nI q) :: .ref (a i 3) :: rest)) :=
  as_sets X hH hi q hq hdg (fun H1 locs1 h => kk H1 locs1 (by rw [zUp_s, zUp_u] at h; exact h))
theorem sn_sets (X : zC p m c cc nL s args own D k a) (hH : zH D k a s (zUp g 0 v) H locs) (j : Nat) (hj : j < 5) {x : Int32} (hdg : decode cc pc = .ok (.iastore, 1)) (kk : ∀ (H : Heap) (locs : List Loc), zH D k a s (zUp g 0 (upd v (8 + j) x)) H locs → W p l e R s m args below meth c H locs cells slots Q (F0 m (pc + 1) ls (rest))) : W p l e R s m args below meth c H locs cells slots Q (F0 m pc ls (.int x :: .int (nI j) :: .ref (a 0 3) :: rest)) :=
  as_sets X hH (by omega) j hj hdg (fun H1 locs1 h => kk H1 locs1 (by rw [zUp_s, zUp_u] at h; exact h))
theorem st_words (X : zC p m c cc nL s args own D k a) (hH : zH D k a s (zT g u w tt n) H locs) (j : Nat) (hj : j < 11) {x : Int32} (hdg : decode cc pc = .ok (.iastore, 1)) (kk : ∀ (H : Heap) (locs : List Loc), zH D k a s (zT g u (upd w j x) tt n) H locs → W p l e R s m args below meth c H locs cells slots Q (F0 m (pc + 1) ls (rest))) : W p l e R s m args below meth c H locs cells slots Q (F0 m pc ls (.int x :: .int (nI j) :: .ref (a 6 5) :: rest)) :=
  as_words X hH j hj hdg (fun H1 locs1 h => kk H1 locs1 (by rw [zT_8, zT_p8] at h; exact h))
theorem st_tables (X : zC p m c cc nL s args own D k a) (hH : zH D k a s (zT g u w tt n) H locs) (j : Nat) (hj : j < 11) {x : Int32} (hdg : decode cc pc = .ok (.iastore, 1)) (kk : ∀ (H : Heap) (locs : List Loc), zH D k a s (zT g u w (upd tt j x) n) H locs → W p l e R s m args below meth c H locs cells slots Q (F0 m (pc + 1) ls (rest))) : W p l e R s m args below meth c H locs cells slots Q (F0 m pc ls (.int x :: .int (nI j) :: .ref (a 6 6) :: rest)) :=
  as_tables X hH j hj hdg (fun H1 locs1 h => kk H1 locs1 (by rw [zT_9, zT_p9] at h; exact h))
theorem st_numbers (X : zC p m c cc nL s args own D k a) (hH : zH D k a s (zT g u w tt n) H locs) (j : Nat) (hj : j < 11) {x : Int32} (hdg : decode cc pc = .ok (.iastore, 1)) (kk : ∀ (H : Heap) (locs : List Loc), zH D k a s (zT g u w tt (upd n j x)) H locs → W p l e R s m args below meth c H locs cells slots Q (F0 m (pc + 1) ls (rest))) : W p l e R s m args below meth c H locs cells slots Q (F0 m pc ls (.int x :: .int (nI j) :: .ref (a 6 7) :: rest)) :=
  as_numbers X hH j hj hdg (fun H1 locs1 h => kk H1 locs1 (by rw [zT_17, zT_p17] at h; exact h))
end ZN
