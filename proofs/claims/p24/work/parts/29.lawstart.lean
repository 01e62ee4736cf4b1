/-! the law's start: classes, arrays of classes, static rows, string constants -/
section LS
variable {s : State} {b : Nat}
theorem lw_w (hts : ∀ w ∈ lw_tbl, w.before #[Value.ref b] s = true) : ∀ w ∈ GW, w.before #[Value.ref b] s = true := fun w hw => hts w (List.mem_filter.mp hw).1
theorem lw_i (hts : ∀ w ∈ lw_tbl, w.before #[Value.ref b] s = true) (i : Nat) {w : Cond} (h : tables_1[i]? = some w) : w.before #[Value.ref b] s = true := hts w (List.mem_append_right _ (List.mem_of_getElem? h))
theorem lw_BX (hts : ∀ w ∈ lw_tbl, w.before #[Value.ref b] s = true) : zBX s :=
  ⟨va_AO.of (lw_i hts 27 (w := .arrayOver (.object "KeptPlans$Table")) (by decide +kernel)), va_AO.of (lw_i hts 29 (w := .arrayOver (.object "KeptPlans$Plan")) (by decide +kernel)), va_AO.of (lw_i hts 166 (w := .arrayOver (.object "KeptPlans$State")) (by decide +kernel)),
   va_Nw.of rfl (lw_i hts 58 (w := .methodLinkNest RX3 28 yX1_init "KeptPlans") (by decide +kernel)), va_Nw.of rfl (lw_i hts 181 (w := .methodLinkNest RX5 28 yX2_init "KeptPlans") (by decide +kernel))⟩
theorem lw_K (hts : ∀ w ∈ lw_tbl, w.before #[Value.ref b] s = true) : ∃ (D : va_G) (k : Nat → ClassId), va_K D vwCl (zTy k) s := by
  obtain ⟨c0, i0, h0⟩ := u_known (C := RX0) (T := TX0) (N := 3) (lw_w hts) inX0 (lw_w hts _ q_160)
  obtain ⟨c1, i1, h1⟩ := u_known (C := RX1) (T := TX1) (N := 11) (lw_w hts) inX1 (lw_w hts _ q_57)
  obtain ⟨c2, i2, h2⟩ := u_known (C := RX2) (T := TX2) (N := 7) (lw_w hts) inX2 (lw_w hts _ q_180)
  obtain ⟨c3, i3, h3⟩ := u_known (C := RX3) (T := TX3) (N := 10) (lw_w hts) inX3 (lw_w hts _ q_21)
  obtain ⟨c4, i4, h4⟩ := u_known (C := RX4) (T := TX4) (N := 4) (lw_w hts) inX4 (lw_w hts _ q_30)
  obtain ⟨c5, i5, h5⟩ := u_known (C := RX5) (T := TX5) (N := 5) (lw_w hts) inX5 (lw_w hts _ q_13)
  obtain ⟨d0, ka0, co0, a0, b0, e0⟩ := Cond.arrayClass_spec (lw_w hts _ q_212)
  obtain ⟨d1, ka1, co1, a1, b1, e1⟩ := Cond.arrayClass_spec (lw_w hts _ q_56)
  obtain ⟨co2, d2, ka2, a2, f2, b2, e2, g2⟩ := Cond.arrayOver_spec (lw_i hts 27 (w := .arrayOver (.object "KeptPlans$Table")) (by decide +kernel))
  obtain ⟨co3, d3, ka3, a3, f3, b3, e3, g3⟩ := Cond.arrayOver_spec (lw_i hts 29 (w := .arrayOver (.object "KeptPlans$Plan")) (by decide +kernel))
  obtain ⟨co4, d4, ka4, a4, f4, b4, e4, g4⟩ := Cond.arrayOver_spec (lw_i hts 166 (w := .arrayOver (.object "KeptPlans$State")) (by decide +kernel))
  refine ⟨(fun t => if t = 0 then c0 else if t = 1 then c1 else if t = 2 then c2 else if t = 3 then c3 else if t = 4 then c4 else c5, fun t => if t = 0 then i0 else if t = 1 then i1 else if t = 2 then i2 else if t = 3 then i3 else if t = 4 then i4 else i5), fun t => if t = 0 then d0 else if t = 1 then d1 else if t = 2 then d2 else if t = 3 then d3 else d4, fun t q hq => ?_, fun t q hq => ?_⟩
  · rcases t with _ | _ | _ | _ | _ | _ | t
    · obtain rfl := Option.some.inj (show some (RX0, TX0, 3) = some q from hq)
      exact h0
    · obtain rfl := Option.some.inj (show some (RX1, TX1, 11) = some q from hq)
      exact h1
    · obtain rfl := Option.some.inj (show some (RX2, TX2, 7) = some q from hq)
      exact h2
    · obtain rfl := Option.some.inj (show some (RX3, TX3, 10) = some q from hq)
      exact h3
    · obtain rfl := Option.some.inj (show some (RX4, TX4, 4) = some q from hq)
      exact h4
    · obtain rfl := Option.some.inj (show some (RX5, TX5, 5) = some q from hq)
      exact h5
    · exact absurd hq (by simp)
  · rcases t with _ | _ | _ | _ | _ | t
    · obtain rfl := Option.some.inj (show some (d0, (.char : FieldType)) = some q from hq)
      exact ⟨fun n z => ⟨fun k h => (by cases h), ka0, b0, co0, e0⟩, a0⟩
    · obtain rfl := Option.some.inj (show some (d1, (.int : FieldType)) = some q from hq)
      exact ⟨fun n z => ⟨fun k h => (by cases h), ka1, b1, co1, e1⟩, a1⟩
    · obtain rfl := Option.some.inj (show some (d2, (.object "KeptPlans$Table" : FieldType)) = some q from hq)
      exact ⟨fun n z => ⟨fun k h => (by cases h), ka2, b2, co2, e2⟩, ⟨ka2, co2, b2, e2, a2, g2⟩⟩
    · obtain rfl := Option.some.inj (show some (d3, (.object "KeptPlans$Plan" : FieldType)) = some q from hq)
      exact ⟨fun n z => ⟨fun k h => (by cases h), ka3, b3, co3, e3⟩, ⟨ka3, co3, b3, e3, a3, g3⟩⟩
    · obtain rfl := Option.some.inj (show some (d4, (.object "KeptPlans$State" : FieldType)) = some q from hq)
      exact ⟨fun n z => ⟨fun k h => (by cases h), ka4, b4, co4, e4⟩, ⟨ka4, co4, b4, e4, a4, g4⟩⟩
    · exact absurd hq (by simp)
def zStr (i : Nat) : Term := .string RX2 ([65, 67, 59, 61, 63, 69, 39].getD i 0)
abbrev lwG : List Cond := flatC (Jvm.Cond.and given_1 narrow_1)
theorem lg_ex : ∀ i, i < 7 → Cond.exactly (zStr i) "java/lang/String" ∈ lwG := by decide +kernel
theorem lg_co : ∀ i, i < 7 → Cond.eq (.field (zStr i) "java/lang/String" "coder" "B") (.int 0) ∈ lwG := by decide +kernel
theorem lg_ar : ∀ i, i < 7 → Cond.arrayOf (.field (zStr i) "java/lang/String" "value" "[B") .byte ∈ lwG := by decide +kernel
theorem lg_le : ∀ i, i < 7 → Cond.eq (.length (.field (zStr i) "java/lang/String" "value" "[B")) (.int (Int32.ofNat (zLen.getD i 0))) ∈ lwG := by decide +kernel
theorem lg_el : ∀ i, i < 7 → ∀ j, j < zLen.getD i 0 → Cond.eq (.elem (.field (zStr i) "java/lang/String" "value" "[B") (.int (Int32.ofNat j))) (.int ((zByt.getD i []).getD j 0)) ∈ lwG := by decide +kernel
theorem lg_ne : ∀ i, i < 7 → ∀ j, j < 7 → i ≠ j → Cond.not (Cond.eq (zStr i) (zStr j)) ∈ lwG ∨ Cond.not (Cond.eq (zStr j) (zStr i)) ∈ lwG := by decide +kernel
abbrev tLE : Term := .static "KeptPlans" "LEAST_SETTING" "[I"
abbrev tMO : Term := .static "KeptPlans" "MOST_SETTING" "[I"
theorem lg_s1 : Cond.arrayOf tLE .int ∈ lwG ∧ Cond.eq (.length tLE) (.int (Int32.ofNat 5)) ∈ lwG ∧ ∀ j, j < 5 → Cond.eq (.elem tLE (.int (Int32.ofNat j))) (.int (zLe j)) ∈ lwG := by decide +kernel
theorem lg_s2 : Cond.arrayOf tMO .int ∈ lwG ∧ Cond.eq (.length tMO) (.int (Int32.ofNat 5)) ∈ lwG ∧ ∀ j, j < 5 → Cond.eq (.elem tMO (.int (Int32.ofNat j))) (.int (zMo j)) ∈ lwG := by decide +kernel
theorem lg_s3 : Cond.eq (.static "java/lang/String" "COMPACT_STRINGS" "Z") (.int 1) ∈ lwG ∧ Cond.isRef (.static "jdk/internal/util/Preconditions" "SIOOBE_FORMATTER" "Ljava/util/function/BiFunction;") ∈ lwG := by decide +kernel
theorem lw_X (hts : ∀ w ∈ lw_tbl, w.before #[Value.ref b] s = true) (hgv : (Jvm.Cond.and given_1 narrow_1).before #[Value.ref b] s = true) : ∃ (q9 q10 : Nat → Nat) (t0 t1 : Nat), ∀ a : Nat → Nat → Nat, (∀ q, zA a q → s.heap.size ≤ q) → a 9 = q9 → a 10 = q10 → a 11 0 = t0 → a 11 1 = t1 → zX a s s.heap := by
  have hs := flat_of_before _ hgv
  have hA : ∀ q : Nat, q < s.heap.size → ¬ zGe s.heap.size q := fun q h1 h2 => Nat.not_lt_of_le h2 h1
  obtain ⟨m1, m2, m3⟩ := lg_s1
  obtain ⟨n1, n2, n3⟩ := lg_s2
  obtain ⟨o1, o2⟩ := lg_s3
  obtain ⟨t0, e0, T0⟩ := va_Tof (tm := tLE) (ty := .int) (N := 5) (f := fun j => .int (zLe j)) (A := zGe s.heap.size) (by decide) (hs _ m1) (va_eqt (hs _ m2)) (fun j hj => va_eqt (hs _ (m3 j hj))) hA
  obtain ⟨t1, e1, T1⟩ := va_Tof (tm := tMO) (ty := .int) (N := 5) (f := fun j => .int (zMo j)) (A := zGe s.heap.size) (by decide) (hs _ n1) (va_eqt (hs _ n2)) (fun j hj => va_eqt (hs _ (n3 j hj))) hA
  obtain ⟨q9, q10, S, ev⟩ := vk_Sof (args := #[Value.ref b]) (s := s) (N := 7) (tm := zStr) (len := zLen) (byt := zByt) (A := zGe s.heap.size) (by decide) (fun i hi => hs _ (lg_ex i hi)) (fun i hi => hs _ (lg_co i hi)) (fun i hi => hs _ (lg_ar i hi)) (fun i hi => hs _ (lg_le i hi)) (fun i hi j hj => hs _ (lg_el i hi j hj)) (fun i j hi hj hij => (lg_ne i hi j hj hij).imp (hs _) (hs _)) hA
  refine ⟨q9, q10, t0, t1, fun a hz e9 e10 e11 e12 => ?_⟩
  subst e9 e10 e11 e12
  have hn : ∀ q, zA a q → zGe s.heap.size q := hz
  refine ⟨(va_Zref (lw_i hts 481 (w := .laysStatic "KeptPlans" "LEAST_SETTING" "[I") (by decide +kernel)) (lw_w hts _ q_1) e0 hA).narrow hn, T0.narrow hn, (va_Zref (lw_i hts 483 (w := .laysStatic "KeptPlans" "MOST_SETTING" "[I") (by decide +kernel)) (lw_w hts _ q_1) e1 hA).narrow hn, T1.narrow hn, S.narrow hn,
    (va_Zof (lw_i hts 397 (w := .laysStatic "java/lang/String" "COMPACT_STRINGS" "Z") (by decide +kernel)) (lw_w hts _ q_8) (va_eqi (hs _ o1)) hA).narrow hn,
    (va_Zqof (lw_i hts 413 (w := .laysStatic "jdk/internal/util/Preconditions" "SIOOBE_FORMATTER" "Ljava/util/function/BiFunction;") (by decide +kernel)) (lw_w hts _ q_10) (hs _ o2) hA).narrow hn,
    va_Nw.of rfl (lw_i hts 303 (w := .methodLinkNest RX3 68 yX5_bitsOf "KeptPlans") (by decide +kernel)), va_Nw.of rfl (lw_i hts 310 (w := .methodLinkNest RX3 82 yX5_quotient "KeptPlans") (by decide +kernel)),
    vk_R.of (A := #[Value.ref b]) (lw_i hts 383 (w := .stringRef RX2 65 "key") (by decide +kernel)) (ev 0 (by decide)),
    vk_R.of (A := #[Value.ref b]) (lw_i hts 436 (w := .stringRef RX2 67 "s") (by decide +kernel)) (ev 1 (by decide)),
    vk_R.of (A := #[Value.ref b]) (lw_i hts 437 (w := .stringRef RX2 59 "span") (by decide +kernel)) (ev 2 (by decide)),
    vk_R.of (A := #[Value.ref b]) (lw_i hts 438 (w := .stringRef RX2 61 "top") (by decide +kernel)) (ev 3 (by decide)),
    vk_R.of (A := #[Value.ref b]) (lw_i hts 439 (w := .stringRef RX2 63 "rows") (by decide +kernel)) (ev 4 (by decide)),
    vk_R.of (A := #[Value.ref b]) (lw_i hts 444 (w := .stringRef RX2 69 " ") (by decide +kernel)) (ev 5 (by decide)),
    vk_R.of (A := #[Value.ref b]) (lw_i hts 449 (w := .stringRef RX2 39 ";") (by decide +kernel)) (ev 6 (by decide))⟩
end LS
