def eT0 : va_E := .inr (4, [.int 0, .int 0, .int 0, .int 0])
def eT : va_E := .inr (4, [.int 100, .int 10, .int 0, .int 0])
def eP : va_E := .inr (1, [.int 0, .int 0, .int 0, .int 0, .int 0, .int 0, .int 0, .int 0, .int 0, .int 0, .int 0])
def eS0 : va_E := .inr (3, [.null, .null, .null, .int 0, .int 0, .int 0, .int 0, .int 0, .int 0, .int 0])
def eH0 : va_E := .inr (0, [.null, .int 0, .int 0])
def eQ0 : va_E := .inr (2, [.null, .int 0, .null, .null, .null, .int 0, .int 0])
def eK0 : va_E := .inr (5, [.null, .null, .null, .null, .int 0])
def eM0 : va_E := .inr (6, [.null, .int 0, .int 0, .null, .int 0, .int 0, .int 0, .int 0, .int 0, .int 0, .int 0, .int 0])
/-- a fresh state's row -/
def zV0 : Nat → Int32 := fun j => if j < 4 then 100 else if j < 8 then 10 else if j = 8 then 50 else if j = 9 then 2 else if j = 10 then 20 else if j = 11 then 6 else if j = 12 then 4 else 0
theorem zV0_z {j : Nat} (h : 13 ≤ j) : zV0 j = 0 := by
  unfold zV0
  rw [if_neg (by omega), if_neg (by omega), if_neg (by omega), if_neg (by omega), if_neg (by omega), if_neg (by omega), if_neg (by omega)]
theorem zV0_a {j : Nat} (h : j < 4) : zV0 j = 100 := by
  unfold zV0
  rw [if_pos h]
theorem zV0_b {j : Nat} (h : j < 4) : zV0 (4 + j) = 10 := by
  unfold zV0
  rw [if_neg (by omega), if_pos (by omega)]
set_option maxRecDepth 100000 in
set_option maxHeartbeats 4000000 in
theorem c_X4_init (l : Launch) (D : va_G) (k : Nat → ClassId) (z i n : Nat) (E : Nat → va_E) (hi : i < n) (hE : E i = eT0) : zBV l yX4_init cX4_init 1 1 12 0 0 D k z i n E n (zBu E i eT) := by
  refine zBV_of (own := RX4) (by decide +kernel) rfl (by decide) rfl ?_
  intro p e s m args below meth c X hin Q hret hH ls hl
  obtain ⟨hx, hb, hml, hown, hts⟩ := X.1
  have hl : lv_has ls 1 [(0, .ref (z + i))] := hl
  refine lv_aload_n hx hb dX4_init_0 rfl (lv_at hl 0 rfl) ?_
  refine b_obj X q_34 hl.1 (by decide) (by decide) dX4_init_1 ?_
  refine lv_aload_n hx hb dX4_init_4 rfl (lv_at hl 0 rfl) ?_
  refine lv_bipush (v := 100) hx hb dX4_init_5 (by decide) ?_
  refine b_put X hH hi hE rfl inX4 tyX4 tyX4_ok nmX4 0 (by omega) rfl q_35 rfl (ty := .int) (by decide +kernel) rfl rfl (by decide) dX4_init_7 (fun H locs hH => ?_)
  refine lv_aload_n hx hb dX4_init_10 rfl (lv_at hl 0 rfl) ?_
  refine lv_bipush (v := 10) hx hb dX4_init_11 (by decide) ?_
  refine b_put X hH hi (zBu_s _ _ _) rfl inX4 tyX4 tyX4_ok nmX4 1 (by omega) rfl q_38 rfl (ty := .int) (by decide +kernel) rfl rfl (by decide) dX4_init_13 (fun H locs hH => ?_)
  refine hret _ _ _ _ (hH.eq (fun j hj => ?_)) dX4_init_16
  by_cases h : j = i
  · subst h
    rw [zBu_s, zBu_s]
    rfl
  · rw [zBu_n _ _ h, zBu_n _ _ h, zBu_n _ _ h]
set_option maxRecDepth 100000 in
set_option maxHeartbeats 4000000 in
theorem c_X1_init (l : Launch) (D : va_G) (k : Nat → ClassId) (z i n : Nat) (E : Nat → va_E) : zBV l yX1_init cX1_init 1 1 12 0 0 D k z i n E n E := by
  refine zBV_of (own := RX1) (by decide +kernel) rfl (by decide) rfl ?_
  intro p e s m args below meth c X hin Q hret hH ls hl
  obtain ⟨hx, hb, hml, hown, hts⟩ := X.1
  have hl : lv_has ls 1 [(0, .ref (z + i))] := hl
  refine lv_aload_n hx hb dX1_init_0 rfl (lv_at hl 0 rfl) ?_
  refine b_obj X q_61 hl.1 (by decide) (by decide) dX1_init_1 ?_
  exact hret _ _ _ _ hH dX1_init_4
/-- inside State(): i tables and p plans are made -/
def zS1 (k : Nat → ClassId) (z n : Nat) (E : Nat → va_E) (i p : Nat) : Nat → va_E := fun j =>
  if j < n then E j
  else if j = n then .inr (3, [.ref (z + (n + 1)), .ref (z + (n + 2)), .ref (z + (n + 3)), .int 0, .int 0, .int 0, .int 0, .int 0, .int 0, .int 0])
  else if j = n + 1 then .inl (k 2, 4, .inr (.inr (.inr (.inr (fun t => if t < i then some (z + (n + 4 + t)) else none)))))
  else if j = n + 2 then .inl (k 3, 12, .inr (.inr (.inr (.inr (fun t => if t < p then some (z + (n + 8 + t)) else none)))))
  else if j = n + 3 then .inl (k 1, 5, .inl (fun t => if t < 5 then zV0 (8 + t) else 0))
  else if j < n + 8 then eT else eP
def zSE (k : Nat → ClassId) (z n : Nat) (E : Nat → va_E) : Nat → va_E := fun j => if j < n then E j else zSt k (fun c => z + (n + c)) zV0 (j - n)
theorem zS1_0 {k : Nat → ClassId} {z n : Nat} {E : Nat → va_E} {i p : Nat} : zS1 k z n E i p n = .inr (3, [.ref (z + (n + 1)), .ref (z + (n + 2)), .ref (z + (n + 3)), .int 0, .int 0, .int 0, .int 0, .int 0, .int 0, .int 0]) := by
  unfold zS1
  rw [if_neg (by omega), if_pos rfl]
theorem zS1_1 {k : Nat → ClassId} {z n : Nat} {E : Nat → va_E} {i p : Nat} : zS1 k z n E i p (n + 1) = .inl (k 2, 4, .inr (.inr (.inr (.inr (fun t => if t < i then some (z + (n + 4 + t)) else none))))) := by
  unfold zS1
  rw [if_neg (by omega), if_neg (by omega), if_pos rfl]
theorem zS1_2 {k : Nat → ClassId} {z n : Nat} {E : Nat → va_E} {i p : Nat} : zS1 k z n E i p (n + 2) = .inl (k 3, 12, .inr (.inr (.inr (.inr (fun t => if t < p then some (z + (n + 8 + t)) else none))))) := by
  unfold zS1
  rw [if_neg (by omega), if_neg (by omega), if_neg (by omega), if_pos rfl]
theorem zS1_3 {k : Nat → ClassId} {z n : Nat} {E : Nat → va_E} {i p : Nat} : zS1 k z n E i p (n + 3) = .inl (k 1, 5, .inl (fun t => if t < 5 then zV0 (8 + t) else 0)) := by
  unfold zS1
  rw [if_neg (by omega), if_neg (by omega), if_neg (by omega), if_neg (by omega), if_pos rfl]
theorem zS1_4 {k : Nat → ClassId} {z n : Nat} {E : Nat → va_E} {i p j : Nat} (h1 : n + 4 ≤ j) (h2 : j < n + 8) : zS1 k z n E i p j = eT := by
  unfold zS1
  rw [if_neg (by omega), if_neg (by omega), if_neg (by omega), if_neg (by omega), if_neg (by omega), if_pos h2]
theorem zS1_8 {k : Nat → ClassId} {z n : Nat} {E : Nat → va_E} {i p j : Nat} (h2 : n + 8 ≤ j) : zS1 k z n E i p j = eP := by
  unfold zS1
  rw [if_neg (by omega), if_neg (by omega), if_neg (by omega), if_neg (by omega), if_neg (by omega), if_neg (by omega)]
theorem zS1_lt {k : Nat → ClassId} {z n : Nat} {E : Nat → va_E} {i p j : Nat} (h : j < n) : zS1 k z n E i p j = E j := by
  unfold zS1
  rw [if_pos h]
theorem zS1_i {k : Nat → ClassId} {z n : Nat} {E : Nat → va_E} {i i' p p' j : Nat} (h1 : j ≠ n + 1) (h2 : j ≠ n + 2) : zS1 k z n E i p j = zS1 k z n E i' p' j := by
  unfold zS1
  rw [if_neg h1, if_neg h2, if_neg h1, if_neg h2]
theorem va_up_lt {f : Nat → Nat} {i : Nat} : va_up (fun t => if t < i then some (f t) else none) i (some (f i)) = (fun t => if t < i + 1 then some (f t) else none) := by
  funext t
  unfold va_up
  by_cases h : t = i
  · subst h
    rw [if_pos rfl, if_pos (by omega)]
  · rw [if_neg h]
    show (if t < i then some (f t) else none) = _
    by_cases h2 : t < i
    · rw [if_pos h2, if_pos (by omega)]
    · rw [if_neg h2, if_neg (by omega)]
theorem zS1_up {k : Nat → ClassId} {z n : Nat} {E : Nat → va_E} {D : va_G} {H : Heap} (j : Nat) (hj : j < n + 20) (h : va_at D vwCl (z + j, zS1 k z n E 4 12 j) H) : va_at D vwCl (z + j, zSE k z n E j) H := by
  unfold zSE
  by_cases h0 : j < n
  · rw [if_pos h0]
    rw [zS1_lt h0] at h
    exact h
  rw [if_neg h0]
  obtain ⟨t, rfl⟩ : ∃ t, j = n + t := ⟨j - n, by omega⟩
  rw [show n + t - n = t by omega]
  by_cases h1 : t = 0
  · subst h1
    rw [Nat.add_zero, zS1_0] at h
    unfold zSt
    rw [if_pos rfl]
    exact h
  by_cases h2 : t = 1
  · subst h2
    rw [zS1_1] at h
    unfold zSt
    rw [if_neg h1, if_pos rfl]
    exact va_at_refs h (fun j hj => by rw [if_pos hj, Nat.add_assoc])
  by_cases h3 : t = 2
  · subst h3
    rw [zS1_2] at h
    unfold zSt
    rw [if_neg h1, if_neg h2, if_pos rfl]
    exact va_at_refs h (fun j hj => by rw [if_pos hj, Nat.add_assoc])
  by_cases h4 : t = 3
  · subst h4
    rw [zS1_3] at h
    unfold zSt
    rw [if_neg h1, if_neg h2, if_neg h3, if_pos rfl]
    exact h
  by_cases h5 : t < 8
  · rw [zS1_4 (by omega) (by omega)] at h
    unfold zSt
    rw [if_neg h1, if_neg h2, if_neg h3, if_neg h4, if_pos h5, zV0_a (by omega), zV0_b (by omega), zV0_z (by omega), zV0_z (by omega)]
    exact h
  · rw [zS1_8 (by omega)] at h
    unfold zSt
    rw [if_neg h1, if_neg h2, if_neg h3, if_neg h4, if_neg h5, zV0_z (by omega), zV0_z (by omega), zV0_z (by omega), zV0_z (by omega), zV0_z (by omega), zV0_z (by omega), zV0_z (by omega), zV0_z (by omega), zV0_z (by omega), zV0_z (by omega), zV0_z (by omega)]
    exact h
set_option maxRecDepth 100000 in
set_option maxHeartbeats 4000000 in
theorem c_X3_init (l : Launch) (D : va_G) (k : Nat → ClassId) (z n : Nat) (E : Nat → va_E) (hE : E n = eS0) : zBV l yX3_init cX3_init 2 2 32 19 169 D k z n (n + 1) E (n + 20) (zSE k z n E) := by
  refine zBV_of (own := RX3) (by decide +kernel) rfl (by decide) rfl ?_
  intro p e s m args below meth c X hin Q hret hH ls hl
  obtain ⟨hx, hb, hml, hown, hts⟩ := X.1
  have hl : lv_has ls 2 [(0, .ref (z + n))] := hl
  refine lv_aload_n hx hb dX3_init_0 rfl (lv_at hl 0 rfl) ?_
  obtain ⟨x1, x2, x3, x4, x5⟩ := X.2.2.1
  refine b_obj X q_25 hl.1 (by decide) (by decide) dX3_init_1 ?_
  refine lv_aload_n hx hb dX3_init_4 rfl (lv_at hl 0 rfl) ?_
  refine lv_iconst (v := 4) hx hb dX3_init_5 (by decide) ?_
  refine b_newq X hH q_26 x1 (t0 := 2) rfl (by decide) (N' := 4) (by decide) (by decide) (by decide) (by decide) dX3_init_6 (fun H hH => ?_)
  refine b_putF X hH (i := n) (by omega) (ci := 3) (fs := [.null, .null, .null, .int 0, .int 0, .int 0, .int 0, .int 0, .int 0, .int 0]) (by rw [zBu_n _ _ (by omega), hE]; rfl) rfl inX3 tyX3 tyX3_ok nmX3 0 (by omega) rfl q_118 rfl hin rfl (ty := .array (.object "KeptPlans$Table")) (by decide +kernel) rfl rfl (Nat.le_of_ble_eq_true rfl) dX3_init_9 (fun H locs hH => ?_)
  refine lv_aload_n hx hb dX3_init_12 rfl (lv_at hl 0 rfl) ?_
  refine lv_bipush (v := 12) hx hb dX3_init_13 (by decide) ?_
  refine b_newq X hH q_28 x2 (t0 := 3) rfl (by decide) (N' := 12) (by decide) (by decide) (by decide) (by decide) dX3_init_15 (fun H hH => ?_)
  refine b_putF X hH (i := n) (by omega) (ci := 3) (fs := [.ref (z + (n + 1)), .null, .null, .int 0, .int 0, .int 0, .int 0, .int 0, .int 0, .int 0]) (by rw [zBu_n _ _ (by omega), zBu_s]; rfl) rfl inX3 tyX3 tyX3_ok nmX3 1 (by omega) rfl q_120 rfl hin rfl (ty := .array (.object "KeptPlans$Plan")) (by decide +kernel) rfl rfl (Nat.le_of_ble_eq_true rfl) dX3_init_18 (fun H locs hH => ?_)
  refine lv_aload_n hx hb dX3_init_21 rfl (lv_at hl 0 rfl) ?_
  refine lv_iconst (v := 5) hx hb dX3_init_22 (by decide) ?_
  refine b_newa X hH (ty := .int) rfl q_56 (t0 := 1) rfl (N' := 5) (f := fun _ => 0) (fun cA => rfl) (by decide) (by decide) (by decide) (by decide) (by decide) dX3_init_23 (fun H hH => ?_)
  refine lv_dup hx hb dX3_init_25 rfl ?_
  refine lv_iconst (v := 0) hx hb dX3_init_26 (by decide) ?_
  refine lv_bipush (v := 50) hx hb dX3_init_27 (by decide) ?_
  refine b_iast X hH (i := n + 3) (by omega) (zBu_s _ _ _) (by decide) 0 (by decide) rfl dX3_init_29 (fun H locs hH => ?_)
  refine lv_dup hx hb dX3_init_30 rfl ?_
  refine lv_iconst (v := 1) hx hb dX3_init_31 (by decide) ?_
  refine lv_iconst (v := 2) hx hb dX3_init_32 (by decide) ?_
  refine b_iast X hH (i := n + 3) (by omega) (zBu_s _ _ _) (by decide) 1 (by decide) rfl dX3_init_33 (fun H locs hH => ?_)
  refine lv_dup hx hb dX3_init_34 rfl ?_
  refine lv_iconst (v := 2) hx hb dX3_init_35 (by decide) ?_
  refine lv_bipush (v := 20) hx hb dX3_init_36 (by decide) ?_
  refine b_iast X hH (i := n + 3) (by omega) (zBu_s _ _ _) (by decide) 2 (by decide) rfl dX3_init_38 (fun H locs hH => ?_)
  refine lv_dup hx hb dX3_init_39 rfl ?_
  refine lv_iconst (v := 3) hx hb dX3_init_40 (by decide) ?_
  refine lv_bipush (v := 6) hx hb dX3_init_41 (by decide) ?_
  refine b_iast X hH (i := n + 3) (by omega) (zBu_s _ _ _) (by decide) 3 (by decide) rfl dX3_init_43 (fun H locs hH => ?_)
  refine lv_dup hx hb dX3_init_44 rfl ?_
  refine lv_iconst (v := 4) hx hb dX3_init_45 (by decide) ?_
  refine lv_iconst (v := 4) hx hb dX3_init_46 (by decide) ?_
  refine b_iast X hH (i := n + 3) (by omega) (zBu_s _ _ _) (by decide) 4 (by decide) rfl dX3_init_47 (fun H locs hH => ?_)
  refine b_putF X hH (i := n) (by omega) (ci := 3) (fs := [.ref (z + (n + 1)), .ref (z + (n + 2)), .null, .int 0, .int 0, .int 0, .int 0, .int 0, .int 0, .int 0]) (by rw [zBu_n _ _ (by omega), zBu_n _ _ (by omega), zBu_n _ _ (by omega), zBu_n _ _ (by omega), zBu_n _ _ (by omega), zBu_n _ _ (by omega), zBu_s]; rfl) rfl inX3 tyX3 tyX3_ok nmX3 2 (by omega) rfl q_122 rfl hin rfl (ty := .array .int) (by decide +kernel) rfl rfl (Nat.le_of_ble_eq_true rfl) dX3_init_48 (fun H locs hH => ?_)
  have hH : zBH D z (n + 4 + 0) (zS1 k z n E 0 0) s H locs := by
    refine hH.eq (fun j hj => ?_)
    by_cases h0 : j = n
    · subst h0
      rw [zS1_0, zBu_s]
      rfl
    rw [zBu_n _ _ h0]
    by_cases h3 : j = n + 3
    · subst h3
      rw [zS1_3, zBu_s]
      refine congrArg (fun f => Sum.inl (k 1, 5, Sum.inl f)) ?_
      funext t
      by_cases t4 : t = 4
      · subst t4; rfl
      by_cases t3 : t = 3
      · subst t3; rfl
      by_cases t2 : t = 2
      · subst t2; rfl
      by_cases t1 : t = 1
      · subst t1; rfl
      by_cases t0 : t = 0
      · subst t0; rfl
      rw [if_neg (by omega)]
      simp [upd, t0, t1, t2, t3, t4]
    rw [zBu_n _ _ h3, zBu_n _ _ h3, zBu_n _ _ h3, zBu_n _ _ h3, zBu_n _ _ h3, zBu_n _ _ h3, zBu_n _ _ h0]
    by_cases h2 : j = n + 2
    · subst h2
      rw [zS1_2, zBu_s]
      refine congrArg (fun f => Sum.inl (k 3, 12, Sum.inr (Sum.inr (Sum.inr (Sum.inr f))))) ?_
      funext t
      rw [if_neg (by omega)]
    rw [show n + 1 + 1 = n + 2 from rfl, zBu_n _ _ h2, zBu_n _ _ h0]
    by_cases h1 : j = n + 1
    · subst h1
      rw [zS1_1, zBu_s]
      refine congrArg (fun f => Sum.inl (k 2, 4, Sum.inr (Sum.inr (Sum.inr (Sum.inr f))))) ?_
      funext t
      rw [if_neg (by omega)]
    rw [zBu_n _ _ h1, zS1_lt (by omega)]
  refine lv_iconst (v := 0) hx hb dX3_init_51 (by decide) ?_
  refine lv_istore_n (lv' := [(1, .int 0), (0, .ref (z + n))]) hx hb dX3_init_52 rfl hl (by decide) rfl (fun ls hl => ?_)
  have Lq : ∀ (jx i : Nat), i + jx = 12 → ∀ (H : Heap) (locs : List Loc) (ls : Array Slot), zBH D z (n + 8 + i) (zS1 k z n E 4 i) s H locs → lv_has ls 2 [(1, .int (nI i)), (0, .ref (z + n))] → W p l e (zRoomC 2 32 19 169) s m args below meth c H locs (7 + i) (37 + 11 * i) Q (F0 m 79 ls []) := by
    intro jx
    induction jx with
    | zero =>
      intro i hix H locs ls hH hl
      obtain rfl : i = 12 := by omega
      refine lv_iload_n hx hb dX3_init_79 rfl (lv_at hl 0 rfl) ?_
      refine lv_bipush (v := 12) hx hb dX3_init_80 (by decide) ?_
      refine n_icmp_ge (A := 12) (B := 12) (tgt := 104) hx hb (by omega) (by omega) dX3_init_82 (by decide) (fun c1 => ?_) (fun q => absurd q (by omega))
      exact hret _ _ _ _ (hH.to (fun j hj q => zS1_up j hj q)) dX3_init_104
    | succ jx ih =>
      intro i hix H locs ls hH hl
      refine lv_iload_n hx hb dX3_init_79 rfl (lv_at hl 0 rfl) ?_
      refine lv_bipush (v := 12) hx hb dX3_init_80 (by decide) ?_
      refine n_icmp_ge (A := i) (B := 12) (tgt := 104) hx hb (by omega) (by omega) dX3_init_82 (by decide) (fun q => absurd q (by omega)) (fun c2 => ?_)
      refine lv_aload_n hx hb dX3_init_85 rfl (lv_at hl 1 rfl) ?_
      refine b_get X hH (i := n) (by omega) zS1_0 rfl inX3 1 (by omega) rfl q_120 rfl dX3_init_86 ?_
      refine lv_iload_n hx hb dX3_init_89 rfl (lv_at hl 0 rfl) ?_
      refine b_new X hH inX1 tyX1 tyX1_ok (ci := 1) rfl q_28 q_57 q_4 [.int 0, .int 0, .int 0, .int 0, .int 0, .int 0, .int 0, .int 0, .int 0, .int 0, .int 0] (fun j hj => by rcases (show j = 0 ∨ j = 1 ∨ j = 2 ∨ j = 3 ∨ j = 4 ∨ j = 5 ∨ j = 6 ∨ j = 7 ∨ j = 8 ∨ j = 9 ∨ j = 10 by omega) with rfl | rfl | rfl | rfl | rfl | rfl | rfl | rfl | rfl | rfl | rfl <;> rfl) (show 7 + i + 1 ≤ 19 by omega) (show 37 + 11 * i + 11 ≤ 169 by omega) dX3_init_90 (fun H hH => ?_)
      refine lv_dup hx hb dX3_init_93 rfl ?_
      refine b_ctorN X hH (c_X1_init l D k z (n + 8 + i) _ _) x4 q_59 q_4 q_60 (by decide +kernel) rfl hl.1 (Nat.le_of_ble_eq_true rfl) (by decide) ⟨(show 7 + i + 1 + 0 ≤ 19 by omega), (show 37 + 11 * i + 11 + 0 ≤ 169 by omega)⟩ dX3_init_94 (fun H locs hH => ?_)
      refine b_aast X hH (i := n + 2) (N := 12) (by omega) (by rw [zBu_n _ _ (by omega)]; exact zS1_2) (t0 := 3) (r := (RX1, TX1, 11)) rfl (qk := n + 8 + i) (by omega) (zBu_s _ _ _) rfl (by omega) i (by omega) dX3_init_97 (fun H locs hH => ?_)
      refine lv_iinc (v := nI (i + 1)) (lv' := [(1, .int (nI (i + 1))), (0, .ref (z + n))]) hx hb dX3_init_98 hl (k := 0) rfl (z_inc1 _) (by decide) rfl (fun ls hl => ?_)
      refine lv_goto (tgt := 79) hx hb dX3_init_101 (by decide) ?_
      refine W.widen (k := 7 + (i + 1)) (n := 37 + 11 * (i + 1)) (by omega) (by omega) ?_
      refine ih (i + 1) (by omega) _ _ _ (hH.eq (fun j hj => ?_)) hl
      by_cases h2 : j = n + 2
      · subst h2
        rw [zBu_s, zS1_2]
        exact congrArg (fun f => Sum.inl (k 3, 12, Sum.inr (Sum.inr (Sum.inr (Sum.inr f))))) (va_up_lt (f := fun t => z + (n + 8 + t))).symm
      · rw [zBu_n _ _ h2]
        by_cases h3 : j = n + 8 + i
        · subst h3
          rw [zBu_s, zS1_8 (by omega)]
          rfl
        · rw [zBu_n _ _ h3]
          by_cases h4 : j = n + 1
          · subst h4
            rw [zS1_1, zS1_1]
          · exact zS1_i h4 h2
  have Lp : ∀ (jx i : Nat), i + jx = 4 → ∀ (H : Heap) (locs : List Loc) (ls : Array Slot), zBH D z (n + 4 + i) (zS1 k z n E i 0) s H locs → lv_has ls 2 [(1, .int (nI i)), (0, .ref (z + n))] → W p l e (zRoomC 2 32 19 169) s m args below meth c H locs (3 + i) (21 + 4 * i) Q (F0 m 53 ls []) := by
    intro jx
    induction jx with
    | zero =>
      intro i hix H locs ls hH hl
      obtain rfl : i = 4 := by omega
      refine lv_iload_n hx hb dX3_init_53 rfl (lv_at hl 0 rfl) ?_
      refine lv_iconst (v := 4) hx hb dX3_init_54 (by decide) ?_
      refine n_icmp_ge (A := 4) (B := 4) (tgt := 77) hx hb (by omega) (by omega) dX3_init_55 (by decide) (fun c1 => ?_) (fun q => absurd q (by omega))
      refine lv_iconst (v := 0) hx hb dX3_init_77 (by decide) ?_
      refine lv_istore_n (lv' := [(1, .int 0), (0, .ref (z + n))]) hx hb dX3_init_78 rfl hl (by decide) rfl (fun ls hl => ?_)
      exact Lq 12 0 (by omega) _ _ _ hH hl
    | succ jx ih =>
      intro i hix H locs ls hH hl
      refine lv_iload_n hx hb dX3_init_53 rfl (lv_at hl 0 rfl) ?_
      refine lv_iconst (v := 4) hx hb dX3_init_54 (by decide) ?_
      refine n_icmp_ge (A := i) (B := 4) (tgt := 77) hx hb (by omega) (by omega) dX3_init_55 (by decide) (fun q => absurd q (by omega)) (fun c2 => ?_)
      refine lv_aload_n hx hb dX3_init_58 rfl (lv_at hl 1 rfl) ?_
      refine b_get X hH (i := n) (by omega) zS1_0 rfl inX3 0 (by omega) rfl q_118 rfl dX3_init_59 ?_
      refine lv_iload_n hx hb dX3_init_62 rfl (lv_at hl 0 rfl) ?_
      refine b_new X hH inX4 tyX4 tyX4_ok (ci := 4) rfl q_26 q_30 q_3 [.int 0, .int 0, .int 0, .int 0] (fun j hj => by rcases (show j = 0 ∨ j = 1 ∨ j = 2 ∨ j = 3 by omega) with rfl | rfl | rfl | rfl <;> rfl) (show 3 + i + 1 ≤ 19 by omega) (show 21 + 4 * i + 4 ≤ 169 by omega) dX3_init_63 (fun H hH => ?_)
      refine lv_dup hx hb dX3_init_66 rfl ?_
      refine b_ctor X hH (c_X4_init l D k z (n + 4 + i) _ _ (by omega) (zBu_s _ _ _)) q_31 q_32 q_3 q_33 (by decide +kernel) rfl hl.1 (Nat.le_of_ble_eq_true rfl) (by decide) ⟨(show 3 + i + 1 + 0 ≤ 19 by omega), (show 21 + 4 * i + 4 + 0 ≤ 169 by omega)⟩ dX3_init_67 (fun H locs hH => ?_)
      refine b_aast X hH (i := n + 1) (N := 4) (by omega) (by rw [zBu_n _ _ (by omega), zBu_n _ _ (by omega)]; exact zS1_1) (t0 := 2) (r := (RX4, TX4, 4)) rfl (qk := n + 4 + i) (by omega) (zBu_s _ _ _) rfl (by omega) i (by omega) dX3_init_70 (fun H locs hH => ?_)
      refine lv_iinc (v := nI (i + 1)) (lv' := [(1, .int (nI (i + 1))), (0, .ref (z + n))]) hx hb dX3_init_71 hl (k := 0) rfl (z_inc1 _) (by decide) rfl (fun ls hl => ?_)
      refine lv_goto (tgt := 53) hx hb dX3_init_74 (by decide) ?_
      refine W.widen (k := 3 + (i + 1)) (n := 21 + 4 * (i + 1)) (by omega) (by omega) ?_
      refine ih (i + 1) (by omega) _ _ _ (hH.eq (fun j hj => ?_)) hl
      by_cases h2 : j = n + 1
      · subst h2
        rw [zBu_s, zS1_1]
        exact congrArg (fun f => Sum.inl (k 2, 4, Sum.inr (Sum.inr (Sum.inr (Sum.inr f))))) (va_up_lt (f := fun t => z + (n + 4 + t))).symm
      · rw [zBu_n _ _ h2]
        by_cases h3 : j = n + 4 + i
        · subst h3
          rw [zBu_s, zS1_4 (by omega) (by omega)]
        · rw [zBu_n _ _ h3, zBu_n _ _ h3]
          by_cases h4 : j = n + 2
          · subst h4
            rw [zS1_2, zS1_2]
          · exact zS1_i h2 h4
  exact Lp 4 0 (by omega) _ _ _ hH hl
