def zH1 (k : Nat → ClassId) (z n : Nat) (E : Nat → va_E) (f : Nat → Option Nat) : Nat → va_E := fun j =>
  if j < n then E j
  else if j = n then .inr (0, [.ref (z + (n + 1)), .int 0, .int 0])
  else if j = n + 1 then .inl (k 4, 4, .inr (.inr (.inr (.inr f))))
  else zSt k (fun c => z + (n + 2 + 20 * ((j - n - 2) / 20) + c)) zV0 ((j - n - 2) % 20)
theorem zH1_lt {k : Nat → ClassId} {z n : Nat} {E : Nat → va_E} {f : Nat → Option Nat} {j : Nat} (h : j < n) : zH1 k z n E f j = E j := by
  unfold zH1
  rw [if_pos h]
theorem zH1_0 {k : Nat → ClassId} {z n : Nat} {E : Nat → va_E} {f : Nat → Option Nat} : zH1 k z n E f n = .inr (0, [.ref (z + (n + 1)), .int 0, .int 0]) := by
  unfold zH1
  rw [if_neg (by omega), if_pos rfl]
theorem zH1_1 {k : Nat → ClassId} {z n : Nat} {E : Nat → va_E} {f : Nat → Option Nat} : zH1 k z n E f (n + 1) = .inl (k 4, 4, .inr (.inr (.inr (.inr f)))) := by
  unfold zH1
  rw [if_neg (by omega), if_neg (by omega), if_pos rfl]
theorem zH1_2 {k : Nat → ClassId} {z n : Nat} {E : Nat → va_E} {f : Nat → Option Nat} {j i : Nat} (h1 : n + 2 + 20 * i ≤ j) (h2 : j < n + 2 + 20 * i + 20) : zH1 k z n E f j = zSt k (fun c => z + (n + 2 + 20 * i + c)) zV0 (j - (n + 2 + 20 * i)) := by
  unfold zH1
  rw [if_neg (by omega), if_neg (by omega), if_neg (by omega), show (j - n - 2) / 20 = i by omega, show (j - n - 2) % 20 = j - (n + 2 + 20 * i) by omega]
theorem zH1_f {k : Nat → ClassId} {z n : Nat} {E : Nat → va_E} {f f' : Nat → Option Nat} {j : Nat} (h : j ≠ n + 1) : zH1 k z n E f j = zH1 k z n E f' j := by
  unfold zH1
  rw [if_neg h, if_neg h]
theorem zH1_E {k : Nat → ClassId} {z n : Nat} {E E' : Nat → va_E} {f : Nat → Option Nat} {j : Nat} (h : n ≤ j) : zH1 k z n E f j = zH1 k z n E' f j := by
  unfold zH1
  rw [if_neg (show ¬ j < n by omega), if_neg (show ¬ j < n by omega)]
abbrev zHf (z n : Nat) : Nat → Option Nat := fun t => some (z + (n + 2 + 20 * t))
theorem zSE_lt {k : Nat → ClassId} {z n : Nat} {E : Nat → va_E} {j : Nat} (h : j < n) : zSE k z n E j = E j := by
  unfold zSE
  rw [if_pos h]
theorem zSE_ge {k : Nat → ClassId} {z n : Nat} {E : Nat → va_E} {j : Nat} (h : n ≤ j) : zSE k z n E j = zSt k (fun c => z + (n + c)) zV0 (j - n) := by
  unfold zSE
  rw [if_neg (by omega)]
theorem zSE_0 {k : Nat → ClassId} {z n : Nat} {E : Nat → va_E} : zSE k z n E n = .inr (3, [.ref (z + (n + 1)), .ref (z + (n + 2)), .ref (z + (n + 3)), .int 0, .int 0, .int 0, .int 0, .int 0, .int 0, .int 0]) := by
  rw [zSE_ge (Nat.le_refl n), Nat.sub_self]
  rfl
set_option maxRecDepth 100000 in
set_option maxHeartbeats 4000000 in
theorem c_X0_init (l : Launch) (D : va_G) (k : Nat → ClassId) (z n : Nat) (E : Nat → va_E) (hE : E n = eH0) : zBV l yX0_init cX0_init 2 3 53 81 720 D k z n (n + 1) E (n + 82) (zH1 k z n E (zHf z n)) := by
  refine zBV_of (own := RX0) (by decide +kernel) rfl (by decide) rfl ?_
  intro p e s m args below meth c X hin Q hret hH ls hl
  obtain ⟨hx, hb, hml, hown, hts⟩ := X.1
  have hl : lv_has ls 2 [(0, .ref (z + n))] := hl
  refine lv_aload_n hx hb dX0_init_0 rfl (lv_at hl 0 rfl) ?_
  obtain ⟨x1, x2, x3, x4, x5⟩ := X.2.2.1
  refine b_obj X q_164 hl.1 (by decide) (by decide) dX0_init_1 ?_
  refine lv_aload_n hx hb dX0_init_4 rfl (lv_at hl 0 rfl) ?_
  refine lv_iconst (v := 4) hx hb dX0_init_5 (by decide) ?_
  refine b_newq X hH q_165 x3 (t0 := 4) rfl (by decide) (N' := 4) (by decide) (by decide) (by decide) (by decide) dX0_init_6 (fun H hH => ?_)
  refine b_putF X hH (i := n) (by omega) (ci := 0) (fs := [.null, .int 0, .int 0]) (by rw [zBu_n _ _ (by omega), hE]; rfl) rfl inX0 tyX0 tyX0_ok nmX0 0 (by omega) rfl q_168 rfl hin rfl (ty := .array (.object "KeptPlans$State")) (by decide +kernel) rfl rfl (Nat.le_of_ble_eq_true rfl) dX0_init_9 (fun H locs hH => ?_)
  have hH : zBH D z (n + 2 + 20 * 0) (zH1 k z n E (fun t => if t < 0 then some (z + (n + 2 + 20 * t)) else none)) s H locs := by
    refine hH.eq (fun j hj => ?_)
    by_cases h0 : j = n
    · subst h0
      rw [zH1_0, zBu_s]
      rfl
    rw [zBu_n _ _ h0]
    by_cases h1 : j = n + 1
    · subst h1
      rw [zH1_1, zBu_s]
      refine congrArg (fun f => Sum.inl (k 4, 4, Sum.inr (Sum.inr (Sum.inr (Sum.inr f))))) ?_
      funext t
      rw [if_neg (by omega)]
    rw [zBu_n _ _ h1, zH1_lt (by omega)]
  refine lv_iconst (v := 0) hx hb dX0_init_12 (by decide) ?_
  refine lv_istore_n (lv' := [(1, .int 0), (0, .ref (z + n))]) hx hb dX0_init_13 rfl hl (by decide) rfl (fun ls hl => ?_)
  have Lp : ∀ (jx i : Nat), i + jx = 4 → ∀ (H : Heap) (locs : List Loc) (ls : Array Slot), zBH D z (n + 2 + 20 * i) (zH1 k z n E (fun t => if t < i then some (z + (n + 2 + 20 * t)) else none)) s H locs → lv_has ls 2 [(1, .int (nI i)), (0, .ref (z + n))] → W p l e (zRoomC 3 53 81 720) s m args below meth c H locs (1 + 20 * i) (4 + 179 * i) Q (F0 m 14 ls []) := by
    intro jx
    induction jx with
    | zero =>
      intro i hix H locs ls hH hl
      obtain rfl : i = 4 := by omega
      refine lv_iload_n hx hb dX0_init_14 rfl (lv_at hl 0 rfl) ?_
      refine lv_iconst (v := 4) hx hb dX0_init_15 (by decide) ?_
      refine n_icmp_ge (A := 4) (B := 4) (tgt := 38) hx hb (by omega) (by omega) dX0_init_16 (by decide) (fun c1 => ?_) (fun q => absurd q (by omega))
      refine hret _ _ _ _ (hH.to (fun j hj q => ?_)) dX0_init_38
      by_cases h1 : j = n + 1
      · subst h1
        rw [zH1_1] at q ⊢
        exact va_at_refs q (fun t ht => by rw [if_pos ht])
      · rw [zH1_f h1] at q
        exact q
    | succ jx ih =>
      intro i hix H locs ls hH hl
      refine lv_iload_n hx hb dX0_init_14 rfl (lv_at hl 0 rfl) ?_
      refine lv_iconst (v := 4) hx hb dX0_init_15 (by decide) ?_
      refine n_icmp_ge (A := i) (B := 4) (tgt := 38) hx hb (by omega) (by omega) dX0_init_16 (by decide) (fun q => absurd q (by omega)) (fun c2 => ?_)
      refine lv_aload_n hx hb dX0_init_19 rfl (lv_at hl 1 rfl) ?_
      refine b_get X hH (i := n) (by omega) zH1_0 rfl inX0 0 (by omega) rfl q_168 rfl dX0_init_20 ?_
      refine lv_iload_n hx hb dX0_init_23 rfl (lv_at hl 0 rfl) ?_
      refine b_new X hH inX3 tyX3 tyX3_ok (ci := 3) rfl q_165 q_21 q_2 [.null, .null, .null, .int 0, .int 0, .int 0, .int 0, .int 0, .int 0, .int 0] (fun j hj => by rcases (show j = 0 ∨ j = 1 ∨ j = 2 ∨ j = 3 ∨ j = 4 ∨ j = 5 ∨ j = 6 ∨ j = 7 ∨ j = 8 ∨ j = 9 by omega) with rfl | rfl | rfl | rfl | rfl | rfl | rfl | rfl | rfl | rfl <;> rfl) (show 1 + 20 * i + 1 ≤ 81 by omega) (show 4 + 179 * i + 10 ≤ 720 by omega) dX0_init_24 (fun H hH => ?_)
      refine lv_dup hx hb dX0_init_27 rfl ?_
      refine b_ctor X hH (c_X3_init l D k z (n + 2 + 20 * i) _ (zBu_s _ _ _)) q_167 q_23 q_2 q_24 (by decide +kernel) rfl hl.1 (Nat.le_of_ble_eq_true rfl) (by decide) ⟨(show 1 + 20 * i + 1 + 19 ≤ 81 by omega), (show 4 + 179 * i + 10 + 169 ≤ 720 by omega)⟩ dX0_init_28 (fun H locs hH => ?_)
      refine b_aast X hH (i := n + 1) (N := 4) (by omega) (by rw [zSE_lt (by omega), zBu_n _ _ (by omega)]; exact zH1_1) (t0 := 4) (r := (RX3, TX3, 10)) rfl (qk := n + 2 + 20 * i) (by omega) zSE_0 rfl (by omega) i (by omega) dX0_init_31 (fun H locs hH => ?_)
      refine lv_iinc (v := nI (i + 1)) (lv' := [(1, .int (nI (i + 1))), (0, .ref (z + n))]) hx hb dX0_init_32 hl (k := 0) rfl (z_inc1 _) (by decide) rfl (fun ls hl => ?_)
      refine lv_goto (tgt := 14) hx hb dX0_init_35 (by decide) ?_
      refine W.widen (k := 1 + 20 * (i + 1)) (n := 4 + 179 * (i + 1)) (by omega) (by omega) ?_
      refine ih (i + 1) (by omega) _ _ _ (hH.eq (fun j hj => ?_)) hl
      by_cases h2 : j = n + 1
      · subst h2
        rw [zBu_s, zH1_1]
        exact congrArg (fun f => Sum.inl (k 4, 4, Sum.inr (Sum.inr (Sum.inr (Sum.inr f))))) (va_up_lt (f := fun t => z + (n + 2 + 20 * t))).symm
      · rw [zBu_n _ _ h2]
        by_cases h3 : j < n + 2 + 20 * i
        · rw [zSE_lt h3, zBu_n _ _ (by omega)]
          exact zH1_f h2
        · rw [zSE_ge (by omega)]
          exact zH1_2 (by omega) (by omega)
  exact Lp 4 0 (by omega) _ _ _ hH hl
def zQE (k : Nat → ClassId) (z n : Nat) (E : Nat → va_E) : Nat → va_E := fun j =>
  if j < n then E j
  else if j = n then .inr (2, [.ref (z + (n + 1)), .int 0, .ref (z + (n + 2)), .ref (z + (n + 3)), .ref (z + (n + 4)), .int 0, .int 0])
  else if j = n + 1 then .inl (k 0, 80, .inl (fun _ => 0))
  else .inl (k 1, 11, .inl (fun _ => 0))
theorem zQE_E {k : Nat → ClassId} {z n : Nat} {E E' : Nat → va_E} {j : Nat} (h : n ≤ j) : zQE k z n E j = zQE k z n E' j := by
  unfold zQE
  rw [if_neg (show ¬ j < n by omega), if_neg (show ¬ j < n by omega)]
set_option maxRecDepth 100000 in
set_option maxHeartbeats 4000000 in
theorem c_X2_init (l : Launch) (D : va_G) (k : Nat → ClassId) (z n : Nat) (E : Nat → va_E) (hE : E n = eQ0) : zBV l yX2_init cX2_init 1 1 12 4 113 D k z n (n + 1) E (n + 5) (zQE k z n E) := by
  refine zBV_of (own := RX2) (by decide +kernel) rfl (by decide) rfl ?_
  intro p e s m args below meth c X hin Q hret hH ls hl
  obtain ⟨hx, hb, hml, hown, hts⟩ := X.1
  have hl : lv_has ls 1 [(0, .ref (z + n))] := hl
  refine lv_aload_n hx hb dX2_init_0 rfl (lv_at hl 0 rfl) ?_
  refine b_obj X q_184 hl.1 (by decide) (by decide) dX2_init_1 ?_
  refine lv_aload_n hx hb dX2_init_4 rfl (lv_at hl 0 rfl) ?_
  refine lv_bipush (v := 80) hx hb dX2_init_5 (by decide) ?_
  refine b_newa X hH (ty := .char) rfl q_212 (t0 := 0) rfl (N' := 80) (f := fun _ => 0) (fun cA => rfl) (by decide) (by decide) (by decide) (by decide) (by decide) dX2_init_7 (fun H hH => ?_)
  refine b_putF X hH (i := n) (by omega) (ci := 2) (fs := [.null, .int 0, .null, .null, .null, .int 0, .int 0]) (by rw [zBu_n _ _ (by omega), hE]; rfl) rfl inX2 tyX2 tyX2_ok nmX2 0 (by omega) rfl q_185 rfl hin rfl (ty := .array .char) (by decide +kernel) rfl rfl (Nat.le_of_ble_eq_true rfl) dX2_init_9 (fun H locs hH => ?_)
  refine lv_aload_n hx hb dX2_init_12 rfl (lv_at hl 0 rfl) ?_
  refine lv_bipush (v := 11) hx hb dX2_init_13 (by decide) ?_
  refine b_newa X hH (ty := .int) rfl q_56 (t0 := 1) rfl (N' := 11) (f := fun _ => 0) (fun cA => rfl) (by decide) (by decide) (by decide) (by decide) (by decide) dX2_init_15 (fun H hH => ?_)
  refine b_putF X hH (i := n) (by omega) (ci := 2) (fs := [.ref (z + (n + 1)), .int 0, .null, .null, .null, .int 0, .int 0]) (by rw [zBu_n _ _ (by omega), zBu_s]; rfl) rfl inX2 tyX2 tyX2_ok nmX2 2 (by omega) rfl q_188 rfl hin rfl (ty := .array .int) (by decide +kernel) rfl rfl (Nat.le_of_ble_eq_true rfl) dX2_init_17 (fun H locs hH => ?_)
  refine lv_aload_n hx hb dX2_init_20 rfl (lv_at hl 0 rfl) ?_
  refine lv_bipush (v := 11) hx hb dX2_init_21 (by decide) ?_
  refine b_newa X hH (ty := .int) rfl q_56 (t0 := 1) rfl (N' := 11) (f := fun _ => 0) (fun cA => rfl) (by decide) (by decide) (by decide) (by decide) (by decide) dX2_init_23 (fun H hH => ?_)
  refine b_putF X hH (i := n) (by omega) (ci := 2) (fs := [.ref (z + (n + 1)), .int 0, .ref (z + (n + 2)), .null, .null, .int 0, .int 0]) (by rw [zBu_n _ _ (by omega), zBu_s]; rfl) rfl inX2 tyX2 tyX2_ok nmX2 3 (by omega) rfl q_190 rfl hin rfl (ty := .array .int) (by decide +kernel) rfl rfl (Nat.le_of_ble_eq_true rfl) dX2_init_25 (fun H locs hH => ?_)
  refine lv_aload_n hx hb dX2_init_28 rfl (lv_at hl 0 rfl) ?_
  refine lv_bipush (v := 11) hx hb dX2_init_29 (by decide) ?_
  refine b_newa X hH (ty := .int) rfl q_56 (t0 := 1) rfl (N' := 11) (f := fun _ => 0) (fun cA => rfl) (by decide) (by decide) (by decide) (by decide) (by decide) dX2_init_31 (fun H hH => ?_)
  refine b_putF X hH (i := n) (by omega) (ci := 2) (fs := [.ref (z + (n + 1)), .int 0, .ref (z + (n + 2)), .ref (z + (n + 3)), .null, .int 0, .int 0]) (by rw [zBu_n _ _ (by omega), zBu_s]; rfl) rfl inX2 tyX2 tyX2_ok nmX2 4 (by omega) rfl q_192 rfl hin rfl (ty := .array .int) (by decide +kernel) rfl rfl (Nat.le_of_ble_eq_true rfl) dX2_init_33 (fun H locs hH => ?_)
  refine hret _ _ _ _ (hH.eq (fun j hj => ?_)) dX2_init_36
  unfold zQE
  by_cases h0 : j = n
  · subst h0
    rw [zBu_s, if_neg (by omega), if_pos rfl]
    rfl
  rw [zBu_n _ _ h0]
  by_cases h4 : j = n + 4
  · subst h4
    rw [zBu_s, if_neg (by omega), if_neg (by omega), if_neg (by omega)]
  rw [zBu_n _ _ h4, zBu_n _ _ h0]
  by_cases h3 : j = n + 3
  · subst h3
    rw [zBu_s, if_neg (by omega), if_neg (by omega), if_neg (by omega)]
  rw [zBu_n _ _ h3, zBu_n _ _ h0]
  by_cases h2 : j = n + 2
  · subst h2
    rw [zBu_s, if_neg (by omega), if_neg (by omega), if_neg (by omega)]
  rw [zBu_n _ _ h2, zBu_n _ _ h0]
  by_cases h1 : j = n + 1
  · subst h1
    rw [zBu_s, if_neg (by omega), if_neg (by omega), if_pos rfl]
  rw [zBu_n _ _ h1, if_pos (by omega)]
def zKE (k : Nat → ClassId) (z n : Nat) (E : Nat → va_E) (fs : List Value) : Nat → va_E := fun j =>
  if j < n then E j
  else if j = n then .inr (5, fs)
  else if j < n + 21 then zSt k (fun c => z + (n + 1 + c)) zV0 (j - (n + 1))
  else if j < n + 41 then zSt k (fun c => z + (n + 21 + c)) zV0 (j - (n + 21))
  else if j < n + 123 then zH1 k z (n + 41) E (zHf z (n + 41)) j
  else zQE k z (n + 123) E j
theorem zKE_0 {k : Nat → ClassId} {z n : Nat} {E : Nat → va_E} {fs : List Value} : zKE k z n E fs n = .inr (5, fs) := by
  unfold zKE
  rw [if_neg (by omega), if_pos rfl]
theorem zKE_f {k : Nat → ClassId} {z n : Nat} {E : Nat → va_E} {fs fs' : List Value} {j : Nat} (h : j ≠ n) : zKE k z n E fs j = zKE k z n E fs' j := by
  unfold zKE
  rw [if_neg h, if_neg h]
abbrev fsK (z n : Nat) : List Value := [.ref (z + (n + 1)), .ref (z + (n + 21)), .ref (z + (n + 41)), .ref (z + (n + 123)), .int 0]
set_option maxRecDepth 100000 in
set_option maxHeartbeats 4000000 in
theorem c_X5_init (l : Launch) (D : va_G) (k : Nat → ClassId) (z n : Nat) (E : Nat → va_E) (hE : E n = eK0) : zBV l yX5_init cX5_init 1 4 74 127 1201 D k z n (n + 1) E (n + 128) (zKE k z n E (fsK z n)) := by
  refine zBV_of (own := RX5) (by decide +kernel) rfl (by decide) rfl ?_
  intro p e s m args below meth c X hin Q hret hH ls hl
  obtain ⟨hx, hb, hml, hown, hts⟩ := X.1
  have hl : lv_has ls 1 [(0, .ref (z + n))] := hl
  refine lv_aload_n hx hb dX5_init_0 rfl (lv_at hl 0 rfl) ?_
  obtain ⟨x1, x2, x3, x4, x5⟩ := X.2.2.1
  refine b_obj X q_17 hl.1 (by decide) (by decide) dX5_init_1 ?_
  refine lv_aload_n hx hb dX5_init_4 rfl (lv_at hl 0 rfl) ?_
  refine b_new X hH inX3 tyX3 tyX3_ok (ci := 3) rfl q_20 q_21 q_2 [.null, .null, .null, .int 0, .int 0, .int 0, .int 0, .int 0, .int 0, .int 0] (fun j hj => by rcases (show j = 0 ∨ j = 1 ∨ j = 2 ∨ j = 3 ∨ j = 4 ∨ j = 5 ∨ j = 6 ∨ j = 7 ∨ j = 8 ∨ j = 9 by omega) with rfl | rfl | rfl | rfl | rfl | rfl | rfl | rfl | rfl | rfl <;> rfl) (by decide) (by decide) dX5_init_5 (fun H hH => ?_)
  refine lv_dup hx hb dX5_init_8 rfl ?_
  refine b_ctor X hH (c_X3_init l D k z (n + 1) _ (zBu_s _ _ _)) q_22 q_23 q_2 q_24 (by decide +kernel) rfl hl.1 (Nat.le_of_ble_eq_true rfl) (by decide) (by decide) dX5_init_9 (fun H locs hH => ?_)
  refine b_putF X hH (i := n) (by omega) (ci := 5) (fs := [.null, .null, .null, .null, .int 0]) (by rw [zSE_lt (by omega), zBu_n _ _ (by omega), hE]; rfl) rfl inX5 tyX5 tyX5_ok nmX5 0 (by omega) rfl q_213 rfl hin rfl (ty := .object "KeptPlans$State") (by decide +kernel) rfl rfl (Nat.le_of_ble_eq_true rfl) dX5_init_12 (fun H locs hH => ?_)
  have hH : zBH D z (n + 21) (zKE k z n E [.ref (z + (n + 1)), .null, .null, .null, .int 0]) s H locs := by
    refine hH.eq (fun j hj => ?_)
    by_cases h0 : j = n
    · subst h0
      rw [zKE_0, zBu_s]
      rfl
    rw [zBu_n _ _ h0]
    unfold zKE
    by_cases h1 : j < n
    · rw [if_pos h1, zSE_lt (by omega), zBu_n _ _ (by omega)]
    · rw [if_neg h1, if_neg h0, if_pos (by omega), zSE_ge (by omega)]
  refine lv_aload_n hx hb dX5_init_15 rfl (lv_at hl 0 rfl) ?_
  refine b_new X hH inX3 tyX3 tyX3_ok (ci := 3) rfl q_20 q_21 q_2 [.null, .null, .null, .int 0, .int 0, .int 0, .int 0, .int 0, .int 0, .int 0] (fun j hj => by rcases (show j = 0 ∨ j = 1 ∨ j = 2 ∨ j = 3 ∨ j = 4 ∨ j = 5 ∨ j = 6 ∨ j = 7 ∨ j = 8 ∨ j = 9 by omega) with rfl | rfl | rfl | rfl | rfl | rfl | rfl | rfl | rfl | rfl <;> rfl) (by decide) (by decide) dX5_init_16 (fun H hH => ?_)
  refine lv_dup hx hb dX5_init_19 rfl ?_
  refine b_ctor X hH (c_X3_init l D k z (n + 21) _ (zBu_s _ _ _)) q_22 q_23 q_2 q_24 (by decide +kernel) rfl hl.1 (Nat.le_of_ble_eq_true rfl) (by decide) (by decide) dX5_init_20 (fun H locs hH => ?_)
  refine b_putF X hH (i := n) (by omega) (ci := 5) (fs := [.ref (z + (n + 1)), .null, .null, .null, .int 0]) (by rw [zSE_lt (by omega), zBu_n _ _ (by omega), zKE_0]) rfl inX5 tyX5 tyX5_ok nmX5 1 (by omega) rfl q_214 rfl hin rfl (ty := .object "KeptPlans$State") (by decide +kernel) rfl rfl (Nat.le_of_ble_eq_true rfl) dX5_init_23 (fun H locs hH => ?_)
  have hH : zBH D z (n + 41) (zKE k z n E [.ref (z + (n + 1)), .ref (z + (n + 21)), .null, .null, .int 0]) s H locs := by
    refine hH.eq (fun j hj => ?_)
    by_cases h0 : j = n
    · subst h0
      rw [zKE_0, zBu_s]
      rfl
    rw [zBu_n _ _ h0]
    by_cases h1 : j < n + 21
    · rw [zSE_lt h1, zBu_n _ _ (by omega)]
      exact zKE_f h0
    · unfold zKE
      rw [if_neg (by omega), if_neg h0, if_neg h1, if_pos (by omega), zSE_ge (by omega)]
  refine lv_aload_n hx hb dX5_init_26 rfl (lv_at hl 0 rfl) ?_
  refine b_new X hH inX0 tyX0 tyX0_ok (ci := 0) rfl q_159 q_160 q_5 [.null, .int 0, .int 0] (fun j hj => by rcases (show j = 0 ∨ j = 1 ∨ j = 2 by omega) with rfl | rfl | rfl <;> rfl) (by decide) (by decide) dX5_init_27 (fun H hH => ?_)
  refine lv_dup hx hb dX5_init_30 rfl ?_
  refine b_ctor X hH (c_X0_init l D k z (n + 41) _ (zBu_s _ _ _)) q_161 q_162 q_5 q_163 (by decide +kernel) rfl hl.1 (Nat.le_of_ble_eq_true rfl) (by decide) (by decide) dX5_init_31 (fun H locs hH => ?_)
  refine b_putF X hH (i := n) (by omega) (ci := 5) (fs := [.ref (z + (n + 1)), .ref (z + (n + 21)), .null, .null, .int 0]) (by rw [zH1_lt (by omega), zBu_n _ _ (by omega), zKE_0]) rfl inX5 tyX5 tyX5_ok nmX5 2 (by omega) rfl q_215 rfl hin rfl (ty := .object "KeptPlans$History") (by decide +kernel) rfl rfl (Nat.le_of_ble_eq_true rfl) dX5_init_34 (fun H locs hH => ?_)
  have hH : zBH D z (n + 123) (zKE k z n E [.ref (z + (n + 1)), .ref (z + (n + 21)), .ref (z + (n + 41)), .null, .int 0]) s H locs := by
    refine hH.eq (fun j hj => ?_)
    by_cases h0 : j = n
    · subst h0
      rw [zKE_0, zBu_s]
      rfl
    rw [zBu_n _ _ h0]
    by_cases h1 : j < n + 41
    · rw [zH1_lt h1, zBu_n _ _ (by omega)]
      exact zKE_f h0
    · rw [zH1_E (E' := E) (by omega)]
      unfold zKE
      rw [if_neg (by omega), if_neg h0, if_neg (by omega), if_neg h1, if_pos (by omega)]
  refine lv_aload_n hx hb dX5_init_37 rfl (lv_at hl 0 rfl) ?_
  refine b_new X hH inX2 tyX2 tyX2_ok (ci := 2) rfl q_179 q_180 q_6 [.null, .int 0, .null, .null, .null, .int 0, .int 0] (fun j hj => by rcases (show j = 0 ∨ j = 1 ∨ j = 2 ∨ j = 3 ∨ j = 4 ∨ j = 5 ∨ j = 6 by omega) with rfl | rfl | rfl | rfl | rfl | rfl | rfl <;> rfl) (by decide) (by decide) dX5_init_38 (fun H hH => ?_)
  refine lv_dup hx hb dX5_init_41 rfl ?_
  refine b_ctorN X hH (c_X2_init l D k z (n + 123) _ (zBu_s _ _ _)) x5 q_182 q_6 q_183 (by decide +kernel) rfl hl.1 (Nat.le_of_ble_eq_true rfl) (by decide) (by decide) dX5_init_42 (fun H locs hH => ?_)
  refine b_putF X hH (i := n) (by omega) (ci := 5) (fs := [.ref (z + (n + 1)), .ref (z + (n + 21)), .ref (z + (n + 41)), .null, .int 0]) (by unfold zQE; rw [if_pos (by omega), zBu_n _ _ (by omega), zKE_0]) rfl inX5 tyX5 tyX5_ok nmX5 3 (by omega) rfl q_216 rfl hin rfl (ty := .object "KeptPlans$QuestionText") (by decide +kernel) rfl rfl (Nat.le_of_ble_eq_true rfl) dX5_init_45 (fun H locs hH => ?_)
  refine lv_aload_n hx hb dX5_init_48 rfl (lv_at hl 0 rfl) ?_
  refine lv_iconst (v := 0) hx hb dX5_init_49 (by decide) ?_
  refine b_put X hH (i := n) (by omega) (zBu_s _ _ _) rfl inX5 tyX5 tyX5_ok nmX5 4 (by omega) rfl q_217 rfl (ty := .boolean) (by decide +kernel) rfl rfl (Nat.le_of_ble_eq_true rfl) dX5_init_50 (fun H locs hH => ?_)
  refine hret _ _ _ _ (hH.eq (fun j hj => ?_)) dX5_init_53
  by_cases h0 : j = n
  · subst h0
    rw [zKE_0, zBu_s]
    rfl
  rw [zBu_n _ _ h0, zBu_n _ _ h0]
  by_cases h1 : j < n + 123
  · unfold zQE
    rw [if_pos h1, zBu_n _ _ (by omega)]
    exact zKE_f h0
  · rw [zQE_E (E' := E) (by omega)]
    unfold zKE
    rw [if_neg (by omega), if_neg h0, if_neg (by omega), if_neg (by omega), if_neg h1]
