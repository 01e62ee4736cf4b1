/-! rows over the memory -/
section ZR
variable {p : Program} {l : Launch} {e : Env} {R : Room} {s : State} {m : MethodId} {args : Array Value} {below : List Frame} {meth : Method} {c : Code} {H : Heap} {locs : List Loc} {cells slots : Nat} {Q : State → Prop}
variable {cc : ByteArray} {nL : Nat} {own : String} {pc : Nat} {ls : Array Slot} {rest : List Value} {D : va_G} {k : Nat → ClassId} {a : Nat → Nat → Nat} {g : Mem}
theorem z_get (X : zC p m c cc nL s args own D k a) (hH : zH D k a s g H locs) {i q ci idx : Nat} {fs : List Value} {C ref : String} {T : u_T} {N : Nat} (hq : q < 20) (h : 20 * i + q < 128) (hE : zE k a g i q = .inr (ci, fs)) (hcl : vwCl[ci]? = some (C, T, N)) (hin : ∀ w ∈ u_ws C T N, w ∈ GW) (f : Nat) (hf : f < N) (hr : (T f).1 = ref) (hl : .fieldLink own idx ref (T f).2.1 (T f).2.2.1 ∈ GW) {v : Value} (hv : fs[f]? = some v) (hdg : decode cc pc = .ok (.getfield idx, 3))
    (kk : W p l e R s m args below meth c H locs cells slots Q (F0 m (pc + 3) ls (v :: rest))) : W p l e R s m args below meth c H locs cells slots Q (F0 m pc ls (.ref (a i q) :: rest)) := by
  obtain ⟨⟨hx, hb, hml, hown, hts⟩, hK, hI, hX⟩ := X
  exact va_get hx hb hts hin hown hK hH.1 (20 * i + q) (zW_at hq h hE) hcl f hf (hts _ hl) (fun x hx => by rw [← hr]; exact hx) hv hdg kk
theorem z_put (X : zC p m c cc nL s args own D k a) (hH : zH D k a s g H locs) {i q ci idx : Nat} {fs : List Value} {C ref : String} {T : u_T} {N : Nat} (hq : q < 20) (h : 20 * i + q < 128) (hE : zE k a g i q = .inr (ci, fs)) (hcl : vwCl[ci]? = some (C, T, N)) (hin : ∀ w ∈ u_ws C T N, w ∈ GW) (ty0 : Nat → FieldType) (hty : ∀ k, k < N → parseFieldDescriptor (T k).2.2.1 = some (ty0 k)) (hnm : ∀ a, a < N → ∀ b, b < N → a ≠ b → (T a).2.1 ≠ (T b).2.1) (f : Nat) (hf : f < N) (hr : (T f).1 = ref) (hl : .fieldLink own idx ref (T f).2.1 (T f).2.2.1 ∈ GW) (hfin : (T f).2.2.2 = false) {ty : FieldType} {v : Value} (hd : parseFieldDescriptor (T f).2.2.1 = some ty) (hn : narrow ty v = v) (hfit : fits ty v = true) (hlen : f < fs.length)
    (g' : Mem) (hE' : zE k a g' i q = .inr (ci, fs.set f v)) (ho : ∀ j, j < 128 → j ≠ 20 * i + q → zE k a g' (j / 20) (j % 20) = zE k a g (j / 20) (j % 20))
    (hdg : decode cc pc = .ok (.putfield idx, 3))
    (kk : ∀ (H1 : Heap) (locs1 : List Loc), zH D k a s g' H1 locs1 → W p l e R s m args below meth c H1 locs1 cells slots Q (F0 m (pc + 3) ls rest)) : W p l e R s m args below meth c H locs cells slots Q (F0 m pc ls (v :: .ref (a i q) :: rest)) := by
  obtain ⟨⟨hx, hb, hml, hown, hts⟩, hK, hI, hX⟩ := X
  refine va_put hx hb hts hin ty0 hty hnm hown hK hH.1 (zD hI) hH.2 (20 * i + q) (zW_at hq h hE) hcl f hf (hts _ hl) (fun x hx => by rw [← hr]; exact hx) hfin hd hn hfit hlen hdg (fun H1 locs1 hP hD hS => ?_)
  rw [zW_set hq h hE' ho] at hP
  exact kk H1 locs1 ⟨hP, hS⟩
theorem z_vpin {j n : Nat} (h : j < n) (hn : n < 2 ^ 31) : vp_in (nI j) n := vp_in_nI h hn
theorem z_cl {j n : Nat} (h : j < n) (hn : n < 2 ^ 31) : (nI j).toNatClampNeg = j := nI_clamp (by omega)
/-- an int row read -/
theorem z_iald (X : zC p m c cc nL s args own D k a) (hH : zH D k a s g H locs) {i q n : Nat} {f : Nat → Int32} (hq : q < 20) (h : 20 * i + q < 128) (hE : zE k a g i q = .inl (k 1, n, .inl f)) (hn : n < 2 ^ 31) (j : Nat) (hj : j < n) (hdg : decode cc pc = .ok (.iaload, 1))
    (kk : W p l e R s m args below meth c H locs cells slots Q (F0 m (pc + 1) ls (.int (f j) :: rest))) : W p l e R s m args below meth c H locs cells slots Q (F0 m pc ls (.int (nI j) :: .ref (a i q) :: rest)) := by
  obtain ⟨⟨hx, hb, hml, hown, hts⟩, hK, hI, hX⟩ := X
  refine va_iald hx hb hK hH.1 (20 * i + q) 1 (zW_at hq h hE) rfl (z_vpin hj hn) hdg ?_
  rw [z_cl hj hn]
  exact kk
theorem z_cald (X : zC p m c cc nL s args own D k a) (hH : zH D k a s g H locs) {i q n : Nat} {f : Nat → Int32} (hq : q < 20) (h : 20 * i + q < 128) (hE : zE k a g i q = .inl (k 0, n, .inl f)) (hn : n < 2 ^ 31) (j : Nat) (hj : j < n) (hdg : decode cc pc = .ok (.caload, 1))
    (kk : W p l e R s m args below meth c H locs cells slots Q (F0 m (pc + 1) ls (.int (f j) :: rest))) : W p l e R s m args below meth c H locs cells slots Q (F0 m pc ls (.int (nI j) :: .ref (a i q) :: rest)) := by
  obtain ⟨⟨hx, hb, hml, hown, hts⟩, hK, hI, hX⟩ := X
  refine va_cald hx hb hK hH.1 (20 * i + q) 0 (zW_at hq h hE) rfl (z_vpin hj hn) hdg ?_
  rw [z_cl hj hn]
  exact kk
theorem z_aald (X : zC p m c cc nL s args own D k a) (hH : zH D k a s g H locs) {i q n t0 : Nat} {C : String} {f : Nat → Option Nat} (hq : q < 20) (h : 20 * i + q < 128) (hE : zE k a g i q = .inl (k t0, n, .inr (.inr (.inr (.inr f))))) (ht : (zTy k)[t0]? = some (k t0, .object C)) (hn : n < 2 ^ 31) (j : Nat) (hj : j < n) {ad : Nat} (hf : f j = some ad) (hdg : decode cc pc = .ok (.aaload, 1))
    (kk : W p l e R s m args below meth c H locs cells slots Q (F0 m (pc + 1) ls (.ref ad :: rest))) : W p l e R s m args below meth c H locs cells slots Q (F0 m pc ls (.int (nI j) :: .ref (a i q) :: rest)) := by
  obtain ⟨⟨hx, hb, hml, hown, hts⟩, hK, hI, hX⟩ := X
  refine va_aldq hx hb hK hH.1 (20 * i + q) t0 (zW_at hq h hE) ht (z_vpin hj hn) hdg ?_
  rw [z_cl hj hn, hf]
  exact kk
theorem z_iast (X : zC p m c cc nL s args own D k a) (hH : zH D k a s g H locs) {i q n : Nat} {f : Nat → Int32} (hq : q < 20) (h : 20 * i + q < 128) (hE : zE k a g i q = .inl (k 1, n, .inl f)) (hn : n < 2 ^ 31) (j : Nat) (hj : j < n) {x : Int32} (g' : Mem) (hE' : zE k a g' i q = .inl (k 1, n, .inl (upd f j x))) (ho : ∀ j, j < 128 → j ≠ 20 * i + q → zE k a g' (j / 20) (j % 20) = zE k a g (j / 20) (j % 20)) (hdg : decode cc pc = .ok (.iastore, 1))
    (kk : ∀ (H1 : Heap) (locs1 : List Loc), zH D k a s g' H1 locs1 → W p l e R s m args below meth c H1 locs1 cells slots Q (F0 m (pc + 1) ls rest)) : W p l e R s m args below meth c H locs cells slots Q (F0 m pc ls (.int x :: .int (nI j) :: .ref (a i q) :: rest)) := by
  obtain ⟨⟨hx, hb, hml, hown, hts⟩, hK, hI, hX⟩ := X
  refine va_iast hx hb hK hH.1 (zD hI) hH.2 (20 * i + q) 1 (zW_at hq h hE) rfl (z_vpin hj hn) hdg (fun H1 locs1 hP hD hS => ?_)
  rw [z_cl hj hn, zW_set hq h hE' ho] at hP
  exact kk H1 locs1 ⟨hP, hS⟩
theorem z_cast (X : zC p m c cc nL s args own D k a) (hH : zH D k a s g H locs) {i q n : Nat} {f : Nat → Int32} (hq : q < 20) (h : 20 * i + q < 128) (hE : zE k a g i q = .inl (k 0, n, .inl f)) (hn : n < 2 ^ 31) (j : Nat) (hj : j < n) {x : Int32} (hx : vp_nar .char x = x) (g' : Mem) (hE' : zE k a g' i q = .inl (k 0, n, .inl (upd f j x))) (ho : ∀ j, j < 128 → j ≠ 20 * i + q → zE k a g' (j / 20) (j % 20) = zE k a g (j / 20) (j % 20)) (hdg : decode cc pc = .ok (.castore, 1))
    (kk : ∀ (H1 : Heap) (locs1 : List Loc), zH D k a s g' H1 locs1 → W p l e R s m args below meth c H1 locs1 cells slots Q (F0 m (pc + 1) ls rest)) : W p l e R s m args below meth c H locs cells slots Q (F0 m pc ls (.int x :: .int (nI j) :: .ref (a i q) :: rest)) := by
  obtain ⟨⟨hx', hb, hml, hown, hts⟩, hK, hI, hX⟩ := X
  refine va_cast hx' hb hK hH.1 (zD hI) hH.2 (20 * i + q) 0 (zW_at hq h hE) rfl (z_vpin hj hn) hdg (fun H1 locs1 hP hD hS => ?_)
  rw [z_cl hj hn, hx, zW_set hq h hE' ho] at hP
  exact kk H1 locs1 ⟨hP, hS⟩
theorem z_recv (X : zC p m c cc nL s args own D k a) (hH : zH D k a s g H locs) {i q ci : Nat} {fs : List Value} {C : String} {T : u_T} {N : Nat} (hq : q < 20) (h : 20 * i + q < 128) (hE : zE k a g i q = .inr (ci, fs)) (hcl : vwCl[ci]? = some (C, T, N)) : ∃ cell : Cell, H[a i q]? = some cell ∧ cell.vm.isStatics = false ∧ s.vm.findClass C = some cell.cls :=
  va_recv X.2.1 hH.1 hcl (zW_at hq h hE)
/-! what a write leaves alone -/
theorem zE_st {g g' : Mem} {i : Nat} (hi : i < 6) (hu : ∀ j, j ≠ i → g' j = g j) {q : Nat} (hs : ∀ r, r < 20 → r ≠ q → zSt k (a i) (g' i) r = zSt k (a i) (g i) r) : ∀ j, j < 128 → j ≠ 20 * i + q → zE k a g' (j / 20) (j % 20) = zE k a g (j / 20) (j % 20) := by
  intro j hj hne
  unfold zE
  by_cases h6 : j / 20 < 6
  · rw [if_pos h6, if_pos h6]
    by_cases h1 : j / 20 = i
    · rw [h1]
      exact hs _ (by omega) (by omega)
    · rw [hu _ h1]
  · rw [if_neg h6, if_neg h6]
    unfold zMi
    simp only [hu 6 (by omega), hu 7 (by omega), hu 8 (by omega), hu 9 (by omega), hu 17 (by omega), hu 18 (by omega), hu 19 (by omega)]
    have e : (fun j => if j < 1120 then g' (10 + j / 160) (j % 160) else 0) = (fun j => if j < 1120 then g (10 + j / 160) (j % 160) else 0) := by
      funext z
      rw [hu _ (by omega)]
    rw [e]
theorem zE_mi {g g' : Mem} {q : Nat} (hu : ∀ j, j < 6 → g' j = g j) (hm : ∀ r, r < 11 → r ≠ q → zMi k a g' r = zMi k a g r) : ∀ j, j < 128 → j ≠ 20 * 6 + q → zE k a g' (j / 20) (j % 20) = zE k a g (j / 20) (j % 20) := by
  intro j hj hne
  unfold zE
  by_cases h6 : j / 20 < 6
  · rw [if_pos h6, if_pos h6, hu _ h6]
  · rw [if_neg h6, if_neg h6]
    exact hm _ (by omega) (by omega)
/-- whose cell a slot of a state's row stands in -/
def zOwn (j : Nat) : Nat := if j < 4 then 4 + j else if j < 8 then j else if j < 13 then 3 else if j < 145 then 8 + (j - 13) / 11 else if j < 152 then 0 else if j < 156 then j - 148 else j - 152
theorem zo_0 {j : Nat} (h1 : 145 ≤ j) (h2 : j ≤ 151) : zOwn j = 0 := by
  unfold zOwn
  rw [if_neg (by omega), if_neg (by omega), if_neg (by omega), if_neg (by omega), if_pos (by omega)]
theorem zo_3 {j : Nat} (h1 : 8 ≤ j) (h2 : j < 13) : zOwn j = 3 := by
  unfold zOwn
  rw [if_neg (by omega), if_neg (by omega), if_pos (by omega)]
theorem zo_a {t : Nat} (h : t < 4) : zOwn t = 4 + t := by
  unfold zOwn
  rw [if_pos (by omega)]
theorem zo_b {t : Nat} (h : t < 4) : zOwn (4 + t) = 4 + t := by
  unfold zOwn
  rw [if_neg (by omega), if_pos (by omega)]
theorem zo_c {t : Nat} (h : t < 4) : zOwn (152 + t) = 4 + t := by
  unfold zOwn
  rw [if_neg (by omega), if_neg (by omega), if_neg (by omega), if_neg (by omega), if_neg (by omega), if_pos (by omega)]
  omega
theorem zo_d {t : Nat} (h : t < 4) : zOwn (156 + t) = 4 + t := by
  unfold zOwn
  rw [if_neg (by omega), if_neg (by omega), if_neg (by omega), if_neg (by omega), if_neg (by omega), if_neg (by omega)]
  omega
theorem zo_p {s o : Nat} (h : s < 12) (ho : o < 11) : zOwn (13 + 11 * s + o) = 8 + s := by
  unfold zOwn
  rw [if_neg (by omega), if_neg (by omega), if_neg (by omega), if_pos (by omega)]
  omega
theorem zSt_o {b : Nat → Nat} {v : Nat → Int32} {j r : Nat} {x : Int32} (hr : r < 20) (hne : r ≠ zOwn j) : zSt k b (upd v j x) r = zSt k b v r := by
  have e : ∀ i, zOwn i = r → upd v j x i = v i := fun i hi => zu_n v x (fun q => hne (by rw [← q]; exact hi.symm))
  unfold zSt
  by_cases h0 : r = 0
  · subst h0
    rw [if_pos rfl, if_pos rfl, e 145 (zo_0 (by omega) (by omega)), e 146 (zo_0 (by omega) (by omega)), e 147 (zo_0 (by omega) (by omega)), e 148 (zo_0 (by omega) (by omega)), e 149 (zo_0 (by omega) (by omega)), e 150 (zo_0 (by omega) (by omega)), e 151 (zo_0 (by omega) (by omega))]
  · rw [if_neg h0, if_neg h0]
    by_cases h1 : r = 1
    · subst h1
      rfl
    · rw [if_neg h1, if_neg h1]
      by_cases h2 : r = 2
      · subst h2
        rfl
      · rw [if_neg h2, if_neg h2]
        by_cases h3 : r = 3
        · subst h3
          have e2 : (fun i => if i < 5 then upd v j x (8 + i) else 0) = (fun i => if i < 5 then v (8 + i) else 0) := by
            funext i
            by_cases hi : i < 5
            · rw [if_pos hi, if_pos hi, e _ (zo_3 (by omega) (by omega))]
            · rw [if_neg hi, if_neg hi]
          rw [if_pos rfl, if_pos rfl, e2]
        · rw [if_neg h3, if_neg h3]
          by_cases h4 : r < 8
          · have ht : r - 4 < 4 := by omega
            rw [if_pos h4, if_pos h4, e (r - 4) ((zo_a ht).trans (by omega)), e (4 + (r - 4)) ((zo_b ht).trans (by omega)), e (152 + (r - 4)) ((zo_c ht).trans (by omega)), e (156 + (r - 4)) ((zo_d ht).trans (by omega))]
          · have ht : r - 8 < 12 := by omega
            have ep : ∀ o, o < 11 → upd v j x (13 + 11 * (r - 8) + o) = v (13 + 11 * (r - 8) + o) := fun o ho => e _ ((zo_p ht ho).trans (by omega))
            rw [if_neg h4, if_neg h4, ep 0 (by omega), ep 1 (by omega), ep 2 (by omega), ep 3 (by omega), ep 4 (by omega), ep 5 (by omega), ep 6 (by omega), ep 7 (by omega), ep 8 (by omega), ep 9 (by omega), ep 10 (by omega)]
theorem z_ho {i j : Nat} {x : Int32} (hi : i < 6) {q : Nat} (hq : zOwn j = q) : ∀ r, r < 128 → r ≠ 20 * i + q → zE k a (zUp g i (upd (g i) j x)) (r / 20) (r % 20) = zE k a g (r / 20) (r % 20) :=
  zE_st hi (fun r hr => zUp_n g _ hr) (fun r hr hne => by rw [zUp_s]; exact zSt_o hr (by rw [hq]; exact hne))
theorem zE_plan {i s : Nat} (hi : i < 6) : zE k a g i (8 + s) = .inr (1, [.int (g i (13 + 11 * s + 0)), .int (g i (13 + 11 * s + 8)), .int (g i (13 + 11 * s + 1)), .int (g i (13 + 11 * s + 2)), .int (g i (13 + 11 * s + 3)), .int (g i (13 + 11 * s + 4)), .int (g i (13 + 11 * s + 5)), .int (g i (13 + 11 * s + 10)), .int (g i (13 + 11 * s + 9)), .int (g i (13 + 11 * s + 6)), .int (g i (13 + 11 * s + 7))]) := by
  unfold zE zSt
  rw [if_pos hi, if_neg (by omega), if_neg (by omega), if_neg (by omega), if_neg (by omega), if_neg (by omega), show 8 + s - 8 = s by omega]
theorem zE_table {i t : Nat} (hi : i < 6) (ht : t < 4) : zE k a g i (4 + t) = .inr (4, [.int (g i t), .int (g i (4 + t)), .int (g i (152 + t)), .int (g i (156 + t))]) := by
  unfold zE zSt
  rw [if_pos hi, if_neg (by omega), if_neg (by omega), if_neg (by omega), if_neg (by omega), if_pos (by omega), show 4 + t - 4 = t by omega]
theorem zE_state {i : Nat} (hi : i < 6) : zE k a g i 0 = .inr (3, [.ref (a i 1), .ref (a i 2), .ref (a i 3), .int (g i 145), .int (g i 146), .int (g i 147), .int (g i 148), .int (g i 149), .int (g i 150), .int (g i 151)]) := by
  unfold zE zSt
  rw [if_pos hi, if_pos rfl]
theorem zE_tabs {i : Nat} (hi : i < 6) : zE k a g i 1 = .inl (k 2, 4, .inr (.inr (.inr (.inr (fun j => some (a i (4 + j))))))) := by
  unfold zE zSt
  rw [if_pos hi, if_neg (by omega), if_pos rfl]
theorem zE_plans {i : Nat} (hi : i < 6) : zE k a g i 2 = .inl (k 3, 12, .inr (.inr (.inr (.inr (fun j => some (a i (8 + j))))))) := by
  unfold zE zSt
  rw [if_pos hi, if_neg (by omega), if_neg (by omega), if_pos rfl]
theorem zE_sets {i : Nat} (hi : i < 6) : zE k a g i 3 = .inl (k 1, 5, .inl (fun j => if j < 5 then g i (8 + j) else 0)) := by
  unfold zE zSt
  rw [if_pos hi, if_neg (by omega), if_neg (by omega), if_neg (by omega), if_pos rfl]
theorem zE_m {q : Nat} : zE k a g 6 q = zMi k a g q := by
  unfold zE
  rw [if_neg (by omega)]
theorem zMi_9 {g g' : Mem} (h : ∀ j, 10 ≤ j → j < 17 → g' j = g j) : zMi k a g' 9 = zMi k a g 9 := by
  have e : (fun j => if j < 1120 then g' (10 + j / 160) (j % 160) else 0) = (fun j => if j < 1120 then g (10 + j / 160) (j % 160) else 0) := by
    funext j
    by_cases hj : j < 1120
    · rw [if_pos hj, if_pos hj, h _ (by omega) (by omega)]
    · rw [if_neg hj, if_neg hj]
  have h9 : ∀ g : Mem, zMi k a g 9 = .inl (k 1, 1120, .inl (fun j => if j < 1120 then g (10 + j / 160) (j % 160) else 0)) := fun _ => rfl
  rw [h9, h9, e]

theorem gf_X1_kept (X : zC p m c cc nL s args own D k a) (hH : zH D k a s g H locs) {i t : Nat} (hi : i < 6) (ht : t < 12) {idx : Nat} (hl : .fieldLink own idx "KeptPlans$Plan" "kept" "Z" ∈ GW) (hdg : decode cc pc = .ok (.getfield idx, 3))
    (kk : W p l e R s m args below meth c H locs cells slots Q (F0 m (pc + 3) ls (.int (g i (13 + 11 * t + 0)) :: rest))) : W p l e R s m args below meth c H locs cells slots Q (F0 m pc ls (.ref (a i (8 + t)) :: rest)) :=
  z_get X hH (C := RX1) (T := TX1) (N := 11) (by omega) (by omega) (zE_plan hi) rfl inX1 0 (by omega) rfl hl rfl hdg kk
theorem pf_X1_kept (X : zC p m c cc nL s args own D k a) (hH : zH D k a s g H locs) {i t : Nat} (hi : i < 6) (ht : t < 12) {idx : Nat} {x : Int32} (hx : x = 0 ∨ x = 1) (hl : .fieldLink own idx "KeptPlans$Plan" "kept" "Z" ∈ GW) (hdg : decode cc pc = .ok (.putfield idx, 3))
    (kk : ∀ (H1 : Heap) (locs1 : List Loc), zH D k a s (zUp g i (upd (g i) (13 + 11 * t + 0) x)) H1 locs1 → W p l e R s m args below meth c H1 locs1 cells slots Q (F0 m (pc + 3) ls rest)) : W p l e R s m args below meth c H locs cells slots Q (F0 m pc ls (.int x :: .ref (a i (8 + t)) :: rest)) :=
  z_put X hH (C := RX1) (T := TX1) (N := 11) (by omega) (by omega) (zE_plan hi) rfl inX1 tyX1 tyX1_ok nmX1 0 (by omega) rfl hl rfl (ty := .boolean) (by decide +kernel) (by rcases hx with rfl | rfl <;> rfl) (by rcases hx with rfl | rfl <;> rfl) (by simp [zMi]) (zUp g i (upd (g i) (13 + 11 * t + 0) x)) (by rw [zE_plan hi]; simp [zUp, upd]) (z_ho hi (zo_p ht (by omega))) hdg kk
theorem gf_X1_pinned (X : zC p m c cc nL s args own D k a) (hH : zH D k a s g H locs) {i t : Nat} (hi : i < 6) (ht : t < 12) {idx : Nat} (hl : .fieldLink own idx "KeptPlans$Plan" "pinned" "Z" ∈ GW) (hdg : decode cc pc = .ok (.getfield idx, 3))
    (kk : W p l e R s m args below meth c H locs cells slots Q (F0 m (pc + 3) ls (.int (g i (13 + 11 * t + 8)) :: rest))) : W p l e R s m args below meth c H locs cells slots Q (F0 m pc ls (.ref (a i (8 + t)) :: rest)) :=
  z_get X hH (C := RX1) (T := TX1) (N := 11) (by omega) (by omega) (zE_plan hi) rfl inX1 1 (by omega) rfl hl rfl hdg kk
theorem pf_X1_pinned (X : zC p m c cc nL s args own D k a) (hH : zH D k a s g H locs) {i t : Nat} (hi : i < 6) (ht : t < 12) {idx : Nat} {x : Int32} (hx : x = 0 ∨ x = 1) (hl : .fieldLink own idx "KeptPlans$Plan" "pinned" "Z" ∈ GW) (hdg : decode cc pc = .ok (.putfield idx, 3))
    (kk : ∀ (H1 : Heap) (locs1 : List Loc), zH D k a s (zUp g i (upd (g i) (13 + 11 * t + 8) x)) H1 locs1 → W p l e R s m args below meth c H1 locs1 cells slots Q (F0 m (pc + 3) ls rest)) : W p l e R s m args below meth c H locs cells slots Q (F0 m pc ls (.int x :: .ref (a i (8 + t)) :: rest)) :=
  z_put X hH (C := RX1) (T := TX1) (N := 11) (by omega) (by omega) (zE_plan hi) rfl inX1 tyX1 tyX1_ok nmX1 1 (by omega) rfl hl rfl (ty := .boolean) (by decide +kernel) (by rcases hx with rfl | rfl <;> rfl) (by rcases hx with rfl | rfl <;> rfl) (by simp [zMi]) (zUp g i (upd (g i) (13 + 11 * t + 8) x)) (by rw [zE_plan hi]; simp [zUp, upd]) (z_ho hi (zo_p ht (by omega))) hdg kk
theorem gf_X1_way (X : zC p m c cc nL s args own D k a) (hH : zH D k a s g H locs) {i t : Nat} (hi : i < 6) (ht : t < 12) {idx : Nat} (hl : .fieldLink own idx "KeptPlans$Plan" "way" "I" ∈ GW) (hdg : decode cc pc = .ok (.getfield idx, 3))
    (kk : W p l e R s m args below meth c H locs cells slots Q (F0 m (pc + 3) ls (.int (g i (13 + 11 * t + 1)) :: rest))) : W p l e R s m args below meth c H locs cells slots Q (F0 m pc ls (.ref (a i (8 + t)) :: rest)) :=
  z_get X hH (C := RX1) (T := TX1) (N := 11) (by omega) (by omega) (zE_plan hi) rfl inX1 2 (by omega) rfl hl rfl hdg kk
theorem pf_X1_way (X : zC p m c cc nL s args own D k a) (hH : zH D k a s g H locs) {i t : Nat} (hi : i < 6) (ht : t < 12) {idx : Nat} {x : Int32}  (hl : .fieldLink own idx "KeptPlans$Plan" "way" "I" ∈ GW) (hdg : decode cc pc = .ok (.putfield idx, 3))
    (kk : ∀ (H1 : Heap) (locs1 : List Loc), zH D k a s (zUp g i (upd (g i) (13 + 11 * t + 1) x)) H1 locs1 → W p l e R s m args below meth c H1 locs1 cells slots Q (F0 m (pc + 3) ls rest)) : W p l e R s m args below meth c H locs cells slots Q (F0 m pc ls (.int x :: .ref (a i (8 + t)) :: rest)) :=
  z_put X hH (C := RX1) (T := TX1) (N := 11) (by omega) (by omega) (zE_plan hi) rfl inX1 tyX1 tyX1_ok nmX1 2 (by omega) rfl hl rfl (ty := .int) (by decide +kernel) rfl rfl (by simp [zMi]) (zUp g i (upd (g i) (13 + 11 * t + 1) x)) (by rw [zE_plan hi]; simp [zUp, upd]) (z_ho hi (zo_p ht (by omega))) hdg kk
theorem gf_X1_least (X : zC p m c cc nL s args own D k a) (hH : zH D k a s g H locs) {i t : Nat} (hi : i < 6) (ht : t < 12) {idx : Nat} (hl : .fieldLink own idx "KeptPlans$Plan" "least" "I" ∈ GW) (hdg : decode cc pc = .ok (.getfield idx, 3))
    (kk : W p l e R s m args below meth c H locs cells slots Q (F0 m (pc + 3) ls (.int (g i (13 + 11 * t + 2)) :: rest))) : W p l e R s m args below meth c H locs cells slots Q (F0 m pc ls (.ref (a i (8 + t)) :: rest)) :=
  z_get X hH (C := RX1) (T := TX1) (N := 11) (by omega) (by omega) (zE_plan hi) rfl inX1 3 (by omega) rfl hl rfl hdg kk
theorem pf_X1_least (X : zC p m c cc nL s args own D k a) (hH : zH D k a s g H locs) {i t : Nat} (hi : i < 6) (ht : t < 12) {idx : Nat} {x : Int32}  (hl : .fieldLink own idx "KeptPlans$Plan" "least" "I" ∈ GW) (hdg : decode cc pc = .ok (.putfield idx, 3))
    (kk : ∀ (H1 : Heap) (locs1 : List Loc), zH D k a s (zUp g i (upd (g i) (13 + 11 * t + 2) x)) H1 locs1 → W p l e R s m args below meth c H1 locs1 cells slots Q (F0 m (pc + 3) ls rest)) : W p l e R s m args below meth c H locs cells slots Q (F0 m pc ls (.int x :: .ref (a i (8 + t)) :: rest)) :=
  z_put X hH (C := RX1) (T := TX1) (N := 11) (by omega) (by omega) (zE_plan hi) rfl inX1 tyX1 tyX1_ok nmX1 3 (by omega) rfl hl rfl (ty := .int) (by decide +kernel) rfl rfl (by simp [zMi]) (zUp g i (upd (g i) (13 + 11 * t + 2) x)) (by rw [zE_plan hi]; simp [zUp, upd]) (z_ho hi (zo_p ht (by omega))) hdg kk
theorem gf_X1_most (X : zC p m c cc nL s args own D k a) (hH : zH D k a s g H locs) {i t : Nat} (hi : i < 6) (ht : t < 12) {idx : Nat} (hl : .fieldLink own idx "KeptPlans$Plan" "most" "I" ∈ GW) (hdg : decode cc pc = .ok (.getfield idx, 3))
    (kk : W p l e R s m args below meth c H locs cells slots Q (F0 m (pc + 3) ls (.int (g i (13 + 11 * t + 3)) :: rest))) : W p l e R s m args below meth c H locs cells slots Q (F0 m pc ls (.ref (a i (8 + t)) :: rest)) :=
  z_get X hH (C := RX1) (T := TX1) (N := 11) (by omega) (by omega) (zE_plan hi) rfl inX1 4 (by omega) rfl hl rfl hdg kk
theorem pf_X1_most (X : zC p m c cc nL s args own D k a) (hH : zH D k a s g H locs) {i t : Nat} (hi : i < 6) (ht : t < 12) {idx : Nat} {x : Int32}  (hl : .fieldLink own idx "KeptPlans$Plan" "most" "I" ∈ GW) (hdg : decode cc pc = .ok (.putfield idx, 3))
    (kk : ∀ (H1 : Heap) (locs1 : List Loc), zH D k a s (zUp g i (upd (g i) (13 + 11 * t + 3) x)) H1 locs1 → W p l e R s m args below meth c H1 locs1 cells slots Q (F0 m (pc + 3) ls rest)) : W p l e R s m args below meth c H locs cells slots Q (F0 m pc ls (.int x :: .ref (a i (8 + t)) :: rest)) :=
  z_put X hH (C := RX1) (T := TX1) (N := 11) (by omega) (by omega) (zE_plan hi) rfl inX1 tyX1 tyX1_ok nmX1 4 (by omega) rfl hl rfl (ty := .int) (by decide +kernel) rfl rfl (by simp [zMi]) (zUp g i (upd (g i) (13 + 11 * t + 3) x)) (by rw [zE_plan hi]; simp [zUp, upd]) (z_ho hi (zo_p ht (by omega))) hdg kk
theorem gf_X1_number (X : zC p m c cc nL s args own D k a) (hH : zH D k a s g H locs) {i t : Nat} (hi : i < 6) (ht : t < 12) {idx : Nat} (hl : .fieldLink own idx "KeptPlans$Plan" "number" "I" ∈ GW) (hdg : decode cc pc = .ok (.getfield idx, 3))
    (kk : W p l e R s m args below meth c H locs cells slots Q (F0 m (pc + 3) ls (.int (g i (13 + 11 * t + 4)) :: rest))) : W p l e R s m args below meth c H locs cells slots Q (F0 m pc ls (.ref (a i (8 + t)) :: rest)) :=
  z_get X hH (C := RX1) (T := TX1) (N := 11) (by omega) (by omega) (zE_plan hi) rfl inX1 5 (by omega) rfl hl rfl hdg kk
theorem pf_X1_number (X : zC p m c cc nL s args own D k a) (hH : zH D k a s g H locs) {i t : Nat} (hi : i < 6) (ht : t < 12) {idx : Nat} {x : Int32}  (hl : .fieldLink own idx "KeptPlans$Plan" "number" "I" ∈ GW) (hdg : decode cc pc = .ok (.putfield idx, 3))
    (kk : ∀ (H1 : Heap) (locs1 : List Loc), zH D k a s (zUp g i (upd (g i) (13 + 11 * t + 4) x)) H1 locs1 → W p l e R s m args below meth c H1 locs1 cells slots Q (F0 m (pc + 3) ls rest)) : W p l e R s m args below meth c H locs cells slots Q (F0 m pc ls (.int x :: .ref (a i (8 + t)) :: rest)) :=
  z_put X hH (C := RX1) (T := TX1) (N := 11) (by omega) (by omega) (zE_plan hi) rfl inX1 tyX1 tyX1_ok nmX1 5 (by omega) rfl hl rfl (ty := .int) (by decide +kernel) rfl rfl (by simp [zMi]) (zUp g i (upd (g i) (13 + 11 * t + 4) x)) (by rw [zE_plan hi]; simp [zUp, upd]) (z_ho hi (zo_p ht (by omega))) hdg kk
theorem gf_X1_guess (X : zC p m c cc nL s args own D k a) (hH : zH D k a s g H locs) {i t : Nat} (hi : i < 6) (ht : t < 12) {idx : Nat} (hl : .fieldLink own idx "KeptPlans$Plan" "guess" "I" ∈ GW) (hdg : decode cc pc = .ok (.getfield idx, 3))
    (kk : W p l e R s m args below meth c H locs cells slots Q (F0 m (pc + 3) ls (.int (g i (13 + 11 * t + 5)) :: rest))) : W p l e R s m args below meth c H locs cells slots Q (F0 m pc ls (.ref (a i (8 + t)) :: rest)) :=
  z_get X hH (C := RX1) (T := TX1) (N := 11) (by omega) (by omega) (zE_plan hi) rfl inX1 6 (by omega) rfl hl rfl hdg kk
theorem pf_X1_guess (X : zC p m c cc nL s args own D k a) (hH : zH D k a s g H locs) {i t : Nat} (hi : i < 6) (ht : t < 12) {idx : Nat} {x : Int32}  (hl : .fieldLink own idx "KeptPlans$Plan" "guess" "I" ∈ GW) (hdg : decode cc pc = .ok (.putfield idx, 3))
    (kk : ∀ (H1 : Heap) (locs1 : List Loc), zH D k a s (zUp g i (upd (g i) (13 + 11 * t + 5) x)) H1 locs1 → W p l e R s m args below meth c H1 locs1 cells slots Q (F0 m (pc + 3) ls rest)) : W p l e R s m args below meth c H locs cells slots Q (F0 m pc ls (.int x :: .ref (a i (8 + t)) :: rest)) :=
  z_put X hH (C := RX1) (T := TX1) (N := 11) (by omega) (by omega) (zE_plan hi) rfl inX1 tyX1 tyX1_ok nmX1 6 (by omega) rfl hl rfl (ty := .int) (by decide +kernel) rfl rfl (by simp [zMi]) (zUp g i (upd (g i) (13 + 11 * t + 5) x)) (by rw [zE_plan hi]; simp [zUp, upd]) (z_ho hi (zo_p ht (by omega))) hdg kk
theorem gf_X1_rows (X : zC p m c cc nL s args own D k a) (hH : zH D k a s g H locs) {i t : Nat} (hi : i < 6) (ht : t < 12) {idx : Nat} (hl : .fieldLink own idx "KeptPlans$Plan" "rows" "I" ∈ GW) (hdg : decode cc pc = .ok (.getfield idx, 3))
    (kk : W p l e R s m args below meth c H locs cells slots Q (F0 m (pc + 3) ls (.int (g i (13 + 11 * t + 10)) :: rest))) : W p l e R s m args below meth c H locs cells slots Q (F0 m pc ls (.ref (a i (8 + t)) :: rest)) :=
  z_get X hH (C := RX1) (T := TX1) (N := 11) (by omega) (by omega) (zE_plan hi) rfl inX1 7 (by omega) rfl hl rfl hdg kk
theorem pf_X1_rows (X : zC p m c cc nL s args own D k a) (hH : zH D k a s g H locs) {i t : Nat} (hi : i < 6) (ht : t < 12) {idx : Nat} {x : Int32}  (hl : .fieldLink own idx "KeptPlans$Plan" "rows" "I" ∈ GW) (hdg : decode cc pc = .ok (.putfield idx, 3))
    (kk : ∀ (H1 : Heap) (locs1 : List Loc), zH D k a s (zUp g i (upd (g i) (13 + 11 * t + 10) x)) H1 locs1 → W p l e R s m args below meth c H1 locs1 cells slots Q (F0 m (pc + 3) ls rest)) : W p l e R s m args below meth c H locs cells slots Q (F0 m pc ls (.int x :: .ref (a i (8 + t)) :: rest)) :=
  z_put X hH (C := RX1) (T := TX1) (N := 11) (by omega) (by omega) (zE_plan hi) rfl inX1 tyX1 tyX1_ok nmX1 7 (by omega) rfl hl rfl (ty := .int) (by decide +kernel) rfl rfl (by simp [zMi]) (zUp g i (upd (g i) (13 + 11 * t + 10) x)) (by rw [zE_plan hi]; simp [zUp, upd]) (z_ho hi (zo_p ht (by omega))) hdg kk
theorem gf_X1_uses (X : zC p m c cc nL s args own D k a) (hH : zH D k a s g H locs) {i t : Nat} (hi : i < 6) (ht : t < 12) {idx : Nat} (hl : .fieldLink own idx "KeptPlans$Plan" "uses" "I" ∈ GW) (hdg : decode cc pc = .ok (.getfield idx, 3))
    (kk : W p l e R s m args below meth c H locs cells slots Q (F0 m (pc + 3) ls (.int (g i (13 + 11 * t + 9)) :: rest))) : W p l e R s m args below meth c H locs cells slots Q (F0 m pc ls (.ref (a i (8 + t)) :: rest)) :=
  z_get X hH (C := RX1) (T := TX1) (N := 11) (by omega) (by omega) (zE_plan hi) rfl inX1 8 (by omega) rfl hl rfl hdg kk
theorem pf_X1_uses (X : zC p m c cc nL s args own D k a) (hH : zH D k a s g H locs) {i t : Nat} (hi : i < 6) (ht : t < 12) {idx : Nat} {x : Int32}  (hl : .fieldLink own idx "KeptPlans$Plan" "uses" "I" ∈ GW) (hdg : decode cc pc = .ok (.putfield idx, 3))
    (kk : ∀ (H1 : Heap) (locs1 : List Loc), zH D k a s (zUp g i (upd (g i) (13 + 11 * t + 9) x)) H1 locs1 → W p l e R s m args below meth c H1 locs1 cells slots Q (F0 m (pc + 3) ls rest)) : W p l e R s m args below meth c H locs cells slots Q (F0 m pc ls (.int x :: .ref (a i (8 + t)) :: rest)) :=
  z_put X hH (C := RX1) (T := TX1) (N := 11) (by omega) (by omega) (zE_plan hi) rfl inX1 tyX1 tyX1_ok nmX1 8 (by omega) rfl hl rfl (ty := .int) (by decide +kernel) rfl rfl (by simp [zMi]) (zUp g i (upd (g i) (13 + 11 * t + 9) x)) (by rw [zE_plan hi]; simp [zUp, upd]) (z_ho hi (zo_p ht (by omega))) hdg kk
theorem gf_X1_madeAt (X : zC p m c cc nL s args own D k a) (hH : zH D k a s g H locs) {i t : Nat} (hi : i < 6) (ht : t < 12) {idx : Nat} (hl : .fieldLink own idx "KeptPlans$Plan" "madeAt" "I" ∈ GW) (hdg : decode cc pc = .ok (.getfield idx, 3))
    (kk : W p l e R s m args below meth c H locs cells slots Q (F0 m (pc + 3) ls (.int (g i (13 + 11 * t + 6)) :: rest))) : W p l e R s m args below meth c H locs cells slots Q (F0 m pc ls (.ref (a i (8 + t)) :: rest)) :=
  z_get X hH (C := RX1) (T := TX1) (N := 11) (by omega) (by omega) (zE_plan hi) rfl inX1 9 (by omega) rfl hl rfl hdg kk
theorem pf_X1_madeAt (X : zC p m c cc nL s args own D k a) (hH : zH D k a s g H locs) {i t : Nat} (hi : i < 6) (ht : t < 12) {idx : Nat} {x : Int32}  (hl : .fieldLink own idx "KeptPlans$Plan" "madeAt" "I" ∈ GW) (hdg : decode cc pc = .ok (.putfield idx, 3))
    (kk : ∀ (H1 : Heap) (locs1 : List Loc), zH D k a s (zUp g i (upd (g i) (13 + 11 * t + 6) x)) H1 locs1 → W p l e R s m args below meth c H1 locs1 cells slots Q (F0 m (pc + 3) ls rest)) : W p l e R s m args below meth c H locs cells slots Q (F0 m pc ls (.int x :: .ref (a i (8 + t)) :: rest)) :=
  z_put X hH (C := RX1) (T := TX1) (N := 11) (by omega) (by omega) (zE_plan hi) rfl inX1 tyX1 tyX1_ok nmX1 9 (by omega) rfl hl rfl (ty := .int) (by decide +kernel) rfl rfl (by simp [zMi]) (zUp g i (upd (g i) (13 + 11 * t + 6) x)) (by rw [zE_plan hi]; simp [zUp, upd]) (z_ho hi (zo_p ht (by omega))) hdg kk
theorem gf_X1_usedAt (X : zC p m c cc nL s args own D k a) (hH : zH D k a s g H locs) {i t : Nat} (hi : i < 6) (ht : t < 12) {idx : Nat} (hl : .fieldLink own idx "KeptPlans$Plan" "usedAt" "I" ∈ GW) (hdg : decode cc pc = .ok (.getfield idx, 3))
    (kk : W p l e R s m args below meth c H locs cells slots Q (F0 m (pc + 3) ls (.int (g i (13 + 11 * t + 7)) :: rest))) : W p l e R s m args below meth c H locs cells slots Q (F0 m pc ls (.ref (a i (8 + t)) :: rest)) :=
  z_get X hH (C := RX1) (T := TX1) (N := 11) (by omega) (by omega) (zE_plan hi) rfl inX1 10 (by omega) rfl hl rfl hdg kk
theorem pf_X1_usedAt (X : zC p m c cc nL s args own D k a) (hH : zH D k a s g H locs) {i t : Nat} (hi : i < 6) (ht : t < 12) {idx : Nat} {x : Int32}  (hl : .fieldLink own idx "KeptPlans$Plan" "usedAt" "I" ∈ GW) (hdg : decode cc pc = .ok (.putfield idx, 3))
    (kk : ∀ (H1 : Heap) (locs1 : List Loc), zH D k a s (zUp g i (upd (g i) (13 + 11 * t + 7) x)) H1 locs1 → W p l e R s m args below meth c H1 locs1 cells slots Q (F0 m (pc + 3) ls rest)) : W p l e R s m args below meth c H locs cells slots Q (F0 m pc ls (.int x :: .ref (a i (8 + t)) :: rest)) :=
  z_put X hH (C := RX1) (T := TX1) (N := 11) (by omega) (by omega) (zE_plan hi) rfl inX1 tyX1 tyX1_ok nmX1 10 (by omega) rfl hl rfl (ty := .int) (by decide +kernel) rfl rfl (by simp [zMi]) (zUp g i (upd (g i) (13 + 11 * t + 7) x)) (by rw [zE_plan hi]; simp [zUp, upd]) (z_ho hi (zo_p ht (by omega))) hdg kk
theorem gf_X4_rows (X : zC p m c cc nL s args own D k a) (hH : zH D k a s g H locs) {i t : Nat} (hi : i < 6) (ht : t < 4) {idx : Nat} (hl : .fieldLink own idx "KeptPlans$Table" "rows" "I" ∈ GW) (hdg : decode cc pc = .ok (.getfield idx, 3))
    (kk : W p l e R s m args below meth c H locs cells slots Q (F0 m (pc + 3) ls (.int (g i t) :: rest))) : W p l e R s m args below meth c H locs cells slots Q (F0 m pc ls (.ref (a i (4 + t)) :: rest)) :=
  z_get X hH (C := RX4) (T := TX4) (N := 4) (by omega) (by omega) (zE_table hi ht) rfl inX4 0 (by omega) rfl hl rfl hdg kk
theorem pf_X4_rows (X : zC p m c cc nL s args own D k a) (hH : zH D k a s g H locs) {i t : Nat} (hi : i < 6) (ht : t < 4) {idx : Nat} {x : Int32}  (hl : .fieldLink own idx "KeptPlans$Table" "rows" "I" ∈ GW) (hdg : decode cc pc = .ok (.putfield idx, 3))
    (kk : ∀ (H1 : Heap) (locs1 : List Loc), zH D k a s (zUp g i (upd (g i) t x)) H1 locs1 → W p l e R s m args below meth c H1 locs1 cells slots Q (F0 m (pc + 3) ls rest)) : W p l e R s m args below meth c H locs cells slots Q (F0 m pc ls (.int x :: .ref (a i (4 + t)) :: rest)) :=
  z_put X hH (C := RX4) (T := TX4) (N := 4) (by omega) (by omega) (zE_table hi ht) rfl inX4 tyX4 tyX4_ok nmX4 0 (by omega) rfl hl rfl (ty := .int) (by decide +kernel) rfl rfl (by simp [zMi]) (zUp g i (upd (g i) t x)) (by rw [zE_table hi ht]; simp [zUp, upd] <;> omega) (z_ho hi (zo_a ht)) hdg kk
theorem gf_X4_keys (X : zC p m c cc nL s args own D k a) (hH : zH D k a s g H locs) {i t : Nat} (hi : i < 6) (ht : t < 4) {idx : Nat} (hl : .fieldLink own idx "KeptPlans$Table" "keys" "I" ∈ GW) (hdg : decode cc pc = .ok (.getfield idx, 3))
    (kk : W p l e R s m args below meth c H locs cells slots Q (F0 m (pc + 3) ls (.int (g i (4 + t)) :: rest))) : W p l e R s m args below meth c H locs cells slots Q (F0 m pc ls (.ref (a i (4 + t)) :: rest)) :=
  z_get X hH (C := RX4) (T := TX4) (N := 4) (by omega) (by omega) (zE_table hi ht) rfl inX4 1 (by omega) rfl hl rfl hdg kk
theorem pf_X4_keys (X : zC p m c cc nL s args own D k a) (hH : zH D k a s g H locs) {i t : Nat} (hi : i < 6) (ht : t < 4) {idx : Nat} {x : Int32}  (hl : .fieldLink own idx "KeptPlans$Table" "keys" "I" ∈ GW) (hdg : decode cc pc = .ok (.putfield idx, 3))
    (kk : ∀ (H1 : Heap) (locs1 : List Loc), zH D k a s (zUp g i (upd (g i) (4 + t) x)) H1 locs1 → W p l e R s m args below meth c H1 locs1 cells slots Q (F0 m (pc + 3) ls rest)) : W p l e R s m args below meth c H locs cells slots Q (F0 m pc ls (.int x :: .ref (a i (4 + t)) :: rest)) :=
  z_put X hH (C := RX4) (T := TX4) (N := 4) (by omega) (by omega) (zE_table hi ht) rfl inX4 tyX4 tyX4_ok nmX4 1 (by omega) rfl hl rfl (ty := .int) (by decide +kernel) rfl rfl (by simp [zMi]) (zUp g i (upd (g i) (4 + t) x)) (by rw [zE_table hi ht]; simp [zUp, upd] <;> omega) (z_ho hi (zo_b ht)) hdg kk
theorem gf_X4_questions (X : zC p m c cc nL s args own D k a) (hH : zH D k a s g H locs) {i t : Nat} (hi : i < 6) (ht : t < 4) {idx : Nat} (hl : .fieldLink own idx "KeptPlans$Table" "questions" "I" ∈ GW) (hdg : decode cc pc = .ok (.getfield idx, 3))
    (kk : W p l e R s m args below meth c H locs cells slots Q (F0 m (pc + 3) ls (.int (g i (152 + t)) :: rest))) : W p l e R s m args below meth c H locs cells slots Q (F0 m pc ls (.ref (a i (4 + t)) :: rest)) :=
  z_get X hH (C := RX4) (T := TX4) (N := 4) (by omega) (by omega) (zE_table hi ht) rfl inX4 2 (by omega) rfl hl rfl hdg kk
theorem pf_X4_questions (X : zC p m c cc nL s args own D k a) (hH : zH D k a s g H locs) {i t : Nat} (hi : i < 6) (ht : t < 4) {idx : Nat} {x : Int32}  (hl : .fieldLink own idx "KeptPlans$Table" "questions" "I" ∈ GW) (hdg : decode cc pc = .ok (.putfield idx, 3))
    (kk : ∀ (H1 : Heap) (locs1 : List Loc), zH D k a s (zUp g i (upd (g i) (152 + t) x)) H1 locs1 → W p l e R s m args below meth c H1 locs1 cells slots Q (F0 m (pc + 3) ls rest)) : W p l e R s m args below meth c H locs cells slots Q (F0 m pc ls (.int x :: .ref (a i (4 + t)) :: rest)) :=
  z_put X hH (C := RX4) (T := TX4) (N := 4) (by omega) (by omega) (zE_table hi ht) rfl inX4 tyX4 tyX4_ok nmX4 2 (by omega) rfl hl rfl (ty := .int) (by decide +kernel) rfl rfl (by simp [zMi]) (zUp g i (upd (g i) (152 + t) x)) (by rw [zE_table hi ht]; simp [zUp, upd] <;> omega) (z_ho hi (zo_c ht)) hdg kk
theorem gf_X4_spent (X : zC p m c cc nL s args own D k a) (hH : zH D k a s g H locs) {i t : Nat} (hi : i < 6) (ht : t < 4) {idx : Nat} (hl : .fieldLink own idx "KeptPlans$Table" "spent" "I" ∈ GW) (hdg : decode cc pc = .ok (.getfield idx, 3))
    (kk : W p l e R s m args below meth c H locs cells slots Q (F0 m (pc + 3) ls (.int (g i (156 + t)) :: rest))) : W p l e R s m args below meth c H locs cells slots Q (F0 m pc ls (.ref (a i (4 + t)) :: rest)) :=
  z_get X hH (C := RX4) (T := TX4) (N := 4) (by omega) (by omega) (zE_table hi ht) rfl inX4 3 (by omega) rfl hl rfl hdg kk
theorem pf_X4_spent (X : zC p m c cc nL s args own D k a) (hH : zH D k a s g H locs) {i t : Nat} (hi : i < 6) (ht : t < 4) {idx : Nat} {x : Int32}  (hl : .fieldLink own idx "KeptPlans$Table" "spent" "I" ∈ GW) (hdg : decode cc pc = .ok (.putfield idx, 3))
    (kk : ∀ (H1 : Heap) (locs1 : List Loc), zH D k a s (zUp g i (upd (g i) (156 + t) x)) H1 locs1 → W p l e R s m args below meth c H1 locs1 cells slots Q (F0 m (pc + 3) ls rest)) : W p l e R s m args below meth c H locs cells slots Q (F0 m pc ls (.int x :: .ref (a i (4 + t)) :: rest)) :=
  z_put X hH (C := RX4) (T := TX4) (N := 4) (by omega) (by omega) (zE_table hi ht) rfl inX4 tyX4 tyX4_ok nmX4 3 (by omega) rfl hl rfl (ty := .int) (by decide +kernel) rfl rfl (by simp [zMi]) (zUp g i (upd (g i) (156 + t) x)) (by rw [zE_table hi ht]; simp [zUp, upd] <;> omega) (z_ho hi (zo_d ht)) hdg kk
theorem gf_X3_tables (X : zC p m c cc nL s args own D k a) (hH : zH D k a s g H locs) {i : Nat} (hi : i < 6) {idx : Nat} (hl : .fieldLink own idx "KeptPlans$State" "tables" "[LKeptPlans$Table;" ∈ GW) (hdg : decode cc pc = .ok (.getfield idx, 3))
    (kk : W p l e R s m args below meth c H locs cells slots Q (F0 m (pc + 3) ls (.ref (a i 1) :: rest))) : W p l e R s m args below meth c H locs cells slots Q (F0 m pc ls (.ref (a i 0) :: rest)) :=
  z_get X hH (C := RX3) (T := TX3) (N := 10) (by omega) (by omega) (zE_state hi) rfl inX3 0 (by omega) rfl hl rfl hdg kk
theorem gf_X3_plans (X : zC p m c cc nL s args own D k a) (hH : zH D k a s g H locs) {i : Nat} (hi : i < 6) {idx : Nat} (hl : .fieldLink own idx "KeptPlans$State" "plans" "[LKeptPlans$Plan;" ∈ GW) (hdg : decode cc pc = .ok (.getfield idx, 3))
    (kk : W p l e R s m args below meth c H locs cells slots Q (F0 m (pc + 3) ls (.ref (a i 2) :: rest))) : W p l e R s m args below meth c H locs cells slots Q (F0 m pc ls (.ref (a i 0) :: rest)) :=
  z_get X hH (C := RX3) (T := TX3) (N := 10) (by omega) (by omega) (zE_state hi) rfl inX3 1 (by omega) rfl hl rfl hdg kk
theorem gf_X3_settings (X : zC p m c cc nL s args own D k a) (hH : zH D k a s g H locs) {i : Nat} (hi : i < 6) {idx : Nat} (hl : .fieldLink own idx "KeptPlans$State" "settings" "[I" ∈ GW) (hdg : decode cc pc = .ok (.getfield idx, 3))
    (kk : W p l e R s m args below meth c H locs cells slots Q (F0 m (pc + 3) ls (.ref (a i 3) :: rest))) : W p l e R s m args below meth c H locs cells slots Q (F0 m pc ls (.ref (a i 0) :: rest)) :=
  z_get X hH (C := RX3) (T := TX3) (N := 10) (by omega) (by omega) (zE_state hi) rfl inX3 2 (by omega) rfl hl rfl hdg kk
theorem gf_X3_questions (X : zC p m c cc nL s args own D k a) (hH : zH D k a s g H locs) {i : Nat} (hi : i < 6) {idx : Nat} (hl : .fieldLink own idx "KeptPlans$State" "questions" "I" ∈ GW) (hdg : decode cc pc = .ok (.getfield idx, 3))
    (kk : W p l e R s m args below meth c H locs cells slots Q (F0 m (pc + 3) ls (.int (g i 145) :: rest))) : W p l e R s m args below meth c H locs cells slots Q (F0 m pc ls (.ref (a i 0) :: rest)) :=
  z_get X hH (C := RX3) (T := TX3) (N := 10) (by omega) (by omega) (zE_state hi) rfl inX3 3 (by omega) rfl hl rfl hdg kk
theorem pf_X3_questions (X : zC p m c cc nL s args own D k a) (hH : zH D k a s g H locs) {i : Nat} (hi : i < 6) {idx : Nat} {x : Int32}  (hl : .fieldLink own idx "KeptPlans$State" "questions" "I" ∈ GW) (hdg : decode cc pc = .ok (.putfield idx, 3))
    (kk : ∀ (H1 : Heap) (locs1 : List Loc), zH D k a s (zUp g i (upd (g i) 145 x)) H1 locs1 → W p l e R s m args below meth c H1 locs1 cells slots Q (F0 m (pc + 3) ls rest)) : W p l e R s m args below meth c H locs cells slots Q (F0 m pc ls (.int x :: .ref (a i 0) :: rest)) :=
  z_put X hH (C := RX3) (T := TX3) (N := 10) (by omega) (by omega) (zE_state hi) rfl inX3 tyX3 tyX3_ok nmX3 3 (by omega) rfl hl rfl (ty := .int) (by decide +kernel) rfl rfl (by simp [zMi]) (zUp g i (upd (g i) 145 x)) (by rw [zE_state hi]; simp [zUp, upd]) (z_ho hi (zo_0 (by omega) (by omega))) hdg kk
theorem gf_X3_hits (X : zC p m c cc nL s args own D k a) (hH : zH D k a s g H locs) {i : Nat} (hi : i < 6) {idx : Nat} (hl : .fieldLink own idx "KeptPlans$State" "hits" "I" ∈ GW) (hdg : decode cc pc = .ok (.getfield idx, 3))
    (kk : W p l e R s m args below meth c H locs cells slots Q (F0 m (pc + 3) ls (.int (g i 146) :: rest))) : W p l e R s m args below meth c H locs cells slots Q (F0 m pc ls (.ref (a i 0) :: rest)) :=
  z_get X hH (C := RX3) (T := TX3) (N := 10) (by omega) (by omega) (zE_state hi) rfl inX3 4 (by omega) rfl hl rfl hdg kk
theorem pf_X3_hits (X : zC p m c cc nL s args own D k a) (hH : zH D k a s g H locs) {i : Nat} (hi : i < 6) {idx : Nat} {x : Int32}  (hl : .fieldLink own idx "KeptPlans$State" "hits" "I" ∈ GW) (hdg : decode cc pc = .ok (.putfield idx, 3))
    (kk : ∀ (H1 : Heap) (locs1 : List Loc), zH D k a s (zUp g i (upd (g i) 146 x)) H1 locs1 → W p l e R s m args below meth c H1 locs1 cells slots Q (F0 m (pc + 3) ls rest)) : W p l e R s m args below meth c H locs cells slots Q (F0 m pc ls (.int x :: .ref (a i 0) :: rest)) :=
  z_put X hH (C := RX3) (T := TX3) (N := 10) (by omega) (by omega) (zE_state hi) rfl inX3 tyX3 tyX3_ok nmX3 4 (by omega) rfl hl rfl (ty := .int) (by decide +kernel) rfl rfl (by simp [zMi]) (zUp g i (upd (g i) 146 x)) (by rw [zE_state hi]; simp [zUp, upd]) (z_ho hi (zo_0 (by omega) (by omega))) hdg kk
theorem gf_X3_misses (X : zC p m c cc nL s args own D k a) (hH : zH D k a s g H locs) {i : Nat} (hi : i < 6) {idx : Nat} (hl : .fieldLink own idx "KeptPlans$State" "misses" "I" ∈ GW) (hdg : decode cc pc = .ok (.getfield idx, 3))
    (kk : W p l e R s m args below meth c H locs cells slots Q (F0 m (pc + 3) ls (.int (g i 147) :: rest))) : W p l e R s m args below meth c H locs cells slots Q (F0 m pc ls (.ref (a i 0) :: rest)) :=
  z_get X hH (C := RX3) (T := TX3) (N := 10) (by omega) (by omega) (zE_state hi) rfl inX3 5 (by omega) rfl hl rfl hdg kk
theorem pf_X3_misses (X : zC p m c cc nL s args own D k a) (hH : zH D k a s g H locs) {i : Nat} (hi : i < 6) {idx : Nat} {x : Int32}  (hl : .fieldLink own idx "KeptPlans$State" "misses" "I" ∈ GW) (hdg : decode cc pc = .ok (.putfield idx, 3))
    (kk : ∀ (H1 : Heap) (locs1 : List Loc), zH D k a s (zUp g i (upd (g i) 147 x)) H1 locs1 → W p l e R s m args below meth c H1 locs1 cells slots Q (F0 m (pc + 3) ls rest)) : W p l e R s m args below meth c H locs cells slots Q (F0 m pc ls (.int x :: .ref (a i 0) :: rest)) :=
  z_put X hH (C := RX3) (T := TX3) (N := 10) (by omega) (by omega) (zE_state hi) rfl inX3 tyX3 tyX3_ok nmX3 5 (by omega) rfl hl rfl (ty := .int) (by decide +kernel) rfl rfl (by simp [zMi]) (zUp g i (upd (g i) 147 x)) (by rw [zE_state hi]; simp [zUp, upd]) (z_ho hi (zo_0 (by omega) (by omega))) hdg kk
theorem gf_X3_spent (X : zC p m c cc nL s args own D k a) (hH : zH D k a s g H locs) {i : Nat} (hi : i < 6) {idx : Nat} (hl : .fieldLink own idx "KeptPlans$State" "spent" "I" ∈ GW) (hdg : decode cc pc = .ok (.getfield idx, 3))
    (kk : W p l e R s m args below meth c H locs cells slots Q (F0 m (pc + 3) ls (.int (g i 148) :: rest))) : W p l e R s m args below meth c H locs cells slots Q (F0 m pc ls (.ref (a i 0) :: rest)) :=
  z_get X hH (C := RX3) (T := TX3) (N := 10) (by omega) (by omega) (zE_state hi) rfl inX3 6 (by omega) rfl hl rfl hdg kk
theorem pf_X3_spent (X : zC p m c cc nL s args own D k a) (hH : zH D k a s g H locs) {i : Nat} (hi : i < 6) {idx : Nat} {x : Int32}  (hl : .fieldLink own idx "KeptPlans$State" "spent" "I" ∈ GW) (hdg : decode cc pc = .ok (.putfield idx, 3))
    (kk : ∀ (H1 : Heap) (locs1 : List Loc), zH D k a s (zUp g i (upd (g i) 148 x)) H1 locs1 → W p l e R s m args below meth c H1 locs1 cells slots Q (F0 m (pc + 3) ls rest)) : W p l e R s m args below meth c H locs cells slots Q (F0 m pc ls (.int x :: .ref (a i 0) :: rest)) :=
  z_put X hH (C := RX3) (T := TX3) (N := 10) (by omega) (by omega) (zE_state hi) rfl inX3 tyX3 tyX3_ok nmX3 6 (by omega) rfl hl rfl (ty := .int) (by decide +kernel) rfl rfl (by simp [zMi]) (zUp g i (upd (g i) 148 x)) (by rw [zE_state hi]; simp [zUp, upd]) (z_ho hi (zo_0 (by omega) (by omega))) hdg kk
theorem gf_X3_spentLooking (X : zC p m c cc nL s args own D k a) (hH : zH D k a s g H locs) {i : Nat} (hi : i < 6) {idx : Nat} (hl : .fieldLink own idx "KeptPlans$State" "spentLooking" "I" ∈ GW) (hdg : decode cc pc = .ok (.getfield idx, 3))
    (kk : W p l e R s m args below meth c H locs cells slots Q (F0 m (pc + 3) ls (.int (g i 149) :: rest))) : W p l e R s m args below meth c H locs cells slots Q (F0 m pc ls (.ref (a i 0) :: rest)) :=
  z_get X hH (C := RX3) (T := TX3) (N := 10) (by omega) (by omega) (zE_state hi) rfl inX3 7 (by omega) rfl hl rfl hdg kk
theorem pf_X3_spentLooking (X : zC p m c cc nL s args own D k a) (hH : zH D k a s g H locs) {i : Nat} (hi : i < 6) {idx : Nat} {x : Int32}  (hl : .fieldLink own idx "KeptPlans$State" "spentLooking" "I" ∈ GW) (hdg : decode cc pc = .ok (.putfield idx, 3))
    (kk : ∀ (H1 : Heap) (locs1 : List Loc), zH D k a s (zUp g i (upd (g i) 149 x)) H1 locs1 → W p l e R s m args below meth c H1 locs1 cells slots Q (F0 m (pc + 3) ls rest)) : W p l e R s m args below meth c H locs cells slots Q (F0 m pc ls (.int x :: .ref (a i 0) :: rest)) :=
  z_put X hH (C := RX3) (T := TX3) (N := 10) (by omega) (by omega) (zE_state hi) rfl inX3 tyX3 tyX3_ok nmX3 7 (by omega) rfl hl rfl (ty := .int) (by decide +kernel) rfl rfl (by simp [zMi]) (zUp g i (upd (g i) 149 x)) (by rw [zE_state hi]; simp [zUp, upd]) (z_ho hi (zo_0 (by omega) (by omega))) hdg kk
theorem gf_X3_turnedBad (X : zC p m c cc nL s args own D k a) (hH : zH D k a s g H locs) {i : Nat} (hi : i < 6) {idx : Nat} (hl : .fieldLink own idx "KeptPlans$State" "turnedBad" "I" ∈ GW) (hdg : decode cc pc = .ok (.getfield idx, 3))
    (kk : W p l e R s m args below meth c H locs cells slots Q (F0 m (pc + 3) ls (.int (g i 150) :: rest))) : W p l e R s m args below meth c H locs cells slots Q (F0 m pc ls (.ref (a i 0) :: rest)) :=
  z_get X hH (C := RX3) (T := TX3) (N := 10) (by omega) (by omega) (zE_state hi) rfl inX3 8 (by omega) rfl hl rfl hdg kk
theorem pf_X3_turnedBad (X : zC p m c cc nL s args own D k a) (hH : zH D k a s g H locs) {i : Nat} (hi : i < 6) {idx : Nat} {x : Int32}  (hl : .fieldLink own idx "KeptPlans$State" "turnedBad" "I" ∈ GW) (hdg : decode cc pc = .ok (.putfield idx, 3))
    (kk : ∀ (H1 : Heap) (locs1 : List Loc), zH D k a s (zUp g i (upd (g i) 150 x)) H1 locs1 → W p l e R s m args below meth c H1 locs1 cells slots Q (F0 m (pc + 3) ls rest)) : W p l e R s m args below meth c H locs cells slots Q (F0 m pc ls (.int x :: .ref (a i 0) :: rest)) :=
  z_put X hH (C := RX3) (T := TX3) (N := 10) (by omega) (by omega) (zE_state hi) rfl inX3 tyX3 tyX3_ok nmX3 8 (by omega) rfl hl rfl (ty := .int) (by decide +kernel) rfl rfl (by simp [zMi]) (zUp g i (upd (g i) 150 x)) (by rw [zE_state hi]; simp [zUp, upd]) (z_ho hi (zo_0 (by omega) (by omega))) hdg kk
theorem gf_X3_crowdedOut (X : zC p m c cc nL s args own D k a) (hH : zH D k a s g H locs) {i : Nat} (hi : i < 6) {idx : Nat} (hl : .fieldLink own idx "KeptPlans$State" "crowdedOut" "I" ∈ GW) (hdg : decode cc pc = .ok (.getfield idx, 3))
    (kk : W p l e R s m args below meth c H locs cells slots Q (F0 m (pc + 3) ls (.int (g i 151) :: rest))) : W p l e R s m args below meth c H locs cells slots Q (F0 m pc ls (.ref (a i 0) :: rest)) :=
  z_get X hH (C := RX3) (T := TX3) (N := 10) (by omega) (by omega) (zE_state hi) rfl inX3 9 (by omega) rfl hl rfl hdg kk
theorem pf_X3_crowdedOut (X : zC p m c cc nL s args own D k a) (hH : zH D k a s g H locs) {i : Nat} (hi : i < 6) {idx : Nat} {x : Int32}  (hl : .fieldLink own idx "KeptPlans$State" "crowdedOut" "I" ∈ GW) (hdg : decode cc pc = .ok (.putfield idx, 3))
    (kk : ∀ (H1 : Heap) (locs1 : List Loc), zH D k a s (zUp g i (upd (g i) 151 x)) H1 locs1 → W p l e R s m args below meth c H1 locs1 cells slots Q (F0 m (pc + 3) ls rest)) : W p l e R s m args below meth c H locs cells slots Q (F0 m pc ls (.int x :: .ref (a i 0) :: rest)) :=
  z_put X hH (C := RX3) (T := TX3) (N := 10) (by omega) (by omega) (zE_state hi) rfl inX3 tyX3 tyX3_ok nmX3 9 (by omega) rfl hl rfl (ty := .int) (by decide +kernel) rfl rfl (by simp [zMi]) (zUp g i (upd (g i) 151 x)) (by rw [zE_state hi]; simp [zUp, upd]) (z_ho hi (zo_0 (by omega) (by omega))) hdg kk
theorem gf_X5_now (X : zC p m c cc nL s args own D k a) (hH : zH D k a s g H locs)  {idx : Nat} (hl : .fieldLink own idx "KeptPlans" "now" "LKeptPlans$State;" ∈ GW) (hdg : decode cc pc = .ok (.getfield idx, 3))
    (kk : W p l e R s m args below meth c H locs cells slots Q (F0 m (pc + 3) ls (.ref (a 0 0) :: rest))) : W p l e R s m args below meth c H locs cells slots Q (F0 m pc ls (.ref (a 6 0) :: rest)) :=
  z_get X hH (C := RX5) (T := TX5) (N := 5) (by omega) (by omega) (zE_m) rfl inX5 0 (by omega) rfl hl rfl hdg kk
theorem gf_X5_snapshot (X : zC p m c cc nL s args own D k a) (hH : zH D k a s g H locs)  {idx : Nat} (hl : .fieldLink own idx "KeptPlans" "snapshot" "LKeptPlans$State;" ∈ GW) (hdg : decode cc pc = .ok (.getfield idx, 3))
    (kk : W p l e R s m args below meth c H locs cells slots Q (F0 m (pc + 3) ls (.ref (a 1 0) :: rest))) : W p l e R s m args below meth c H locs cells slots Q (F0 m pc ls (.ref (a 6 0) :: rest)) :=
  z_get X hH (C := RX5) (T := TX5) (N := 5) (by omega) (by omega) (zE_m) rfl inX5 1 (by omega) rfl hl rfl hdg kk
theorem gf_X5_history (X : zC p m c cc nL s args own D k a) (hH : zH D k a s g H locs)  {idx : Nat} (hl : .fieldLink own idx "KeptPlans" "history" "LKeptPlans$History;" ∈ GW) (hdg : decode cc pc = .ok (.getfield idx, 3))
    (kk : W p l e R s m args below meth c H locs cells slots Q (F0 m (pc + 3) ls (.ref (a 6 1) :: rest))) : W p l e R s m args below meth c H locs cells slots Q (F0 m pc ls (.ref (a 6 0) :: rest)) :=
  z_get X hH (C := RX5) (T := TX5) (N := 5) (by omega) (by omega) (zE_m) rfl inX5 2 (by omega) rfl hl rfl hdg kk
theorem gf_X5_text (X : zC p m c cc nL s args own D k a) (hH : zH D k a s g H locs)  {idx : Nat} (hl : .fieldLink own idx "KeptPlans" "text" "LKeptPlans$QuestionText;" ∈ GW) (hdg : decode cc pc = .ok (.getfield idx, 3))
    (kk : W p l e R s m args below meth c H locs cells slots Q (F0 m (pc + 3) ls (.ref (a 6 3) :: rest))) : W p l e R s m args below meth c H locs cells slots Q (F0 m pc ls (.ref (a 6 0) :: rest)) :=
  z_get X hH (C := RX5) (T := TX5) (N := 5) (by omega) (by omega) (zE_m) rfl inX5 3 (by omega) rfl hl rfl hdg kk
theorem gf_X5_hasSnapshot (X : zC p m c cc nL s args own D k a) (hH : zH D k a s g H locs)  {idx : Nat} (hl : .fieldLink own idx "KeptPlans" "hasSnapshot" "Z" ∈ GW) (hdg : decode cc pc = .ok (.getfield idx, 3))
    (kk : W p l e R s m args below meth c H locs cells slots Q (F0 m (pc + 3) ls (.int (g 6 5) :: rest))) : W p l e R s m args below meth c H locs cells slots Q (F0 m pc ls (.ref (a 6 0) :: rest)) :=
  z_get X hH (C := RX5) (T := TX5) (N := 5) (by omega) (by omega) (zE_m) rfl inX5 4 (by omega) rfl hl rfl hdg kk
theorem pf_X5_hasSnapshot (X : zC p m c cc nL s args own D k a) (hH : zH D k a s g H locs)  {idx : Nat} {x : Int32} (hx : x = 0 ∨ x = 1) (hl : .fieldLink own idx "KeptPlans" "hasSnapshot" "Z" ∈ GW) (hdg : decode cc pc = .ok (.putfield idx, 3))
    (kk : ∀ (H1 : Heap) (locs1 : List Loc), zH D k a s (zUp g 6 (upd (g 6) 5 x)) H1 locs1 → W p l e R s m args below meth c H1 locs1 cells slots Q (F0 m (pc + 3) ls rest)) : W p l e R s m args below meth c H locs cells slots Q (F0 m pc ls (.int x :: .ref (a 6 0) :: rest)) :=
  z_put X hH (C := RX5) (T := TX5) (N := 5) (by omega) (by omega) (zE_m) rfl inX5 tyX5 tyX5_ok nmX5 4 (by omega) rfl hl rfl (ty := .boolean) (by decide +kernel) (by rcases hx with rfl | rfl <;> rfl) (by rcases hx with rfl | rfl <;> rfl) (by simp [zMi]) (zUp g 6 (upd (g 6) 5 x)) (by rw [zE_m]; simp [zMi, zUp, upd]) (zE_mi (fun j hj => zUp_n g _ (by omega)) (fun r hr hne => by rcases (show r = 0 ∨ r = 1 ∨ r = 2 ∨ r = 3 ∨ r = 4 ∨ r = 5 ∨ r = 6 ∨ r = 7 ∨ r = 8 ∨ r = 9 ∨ r = 10 by omega) with rfl | rfl | rfl | rfl | rfl | rfl | rfl | rfl | rfl | rfl | rfl <;> first | (exact absurd rfl hne) | (exact zMi_9 (fun j h1 h2 => zUp_n g _ (by omega))) | simp [zMi, zUp, upd])) hdg kk
theorem gf_X0_states (X : zC p m c cc nL s args own D k a) (hH : zH D k a s g H locs)  {idx : Nat} (hl : .fieldLink own idx "KeptPlans$History" "states" "[LKeptPlans$State;" ∈ GW) (hdg : decode cc pc = .ok (.getfield idx, 3))
    (kk : W p l e R s m args below meth c H locs cells slots Q (F0 m (pc + 3) ls (.ref (a 6 2) :: rest))) : W p l e R s m args below meth c H locs cells slots Q (F0 m pc ls (.ref (a 6 1) :: rest)) :=
  z_get X hH (C := RX0) (T := TX0) (N := 3) (by omega) (by omega) (zE_m) rfl inX0 0 (by omega) rfl hl rfl hdg kk
theorem gf_X0_next (X : zC p m c cc nL s args own D k a) (hH : zH D k a s g H locs)  {idx : Nat} (hl : .fieldLink own idx "KeptPlans$History" "next" "I" ∈ GW) (hdg : decode cc pc = .ok (.getfield idx, 3))
    (kk : W p l e R s m args below meth c H locs cells slots Q (F0 m (pc + 3) ls (.int (g 6 0) :: rest))) : W p l e R s m args below meth c H locs cells slots Q (F0 m pc ls (.ref (a 6 1) :: rest)) :=
  z_get X hH (C := RX0) (T := TX0) (N := 3) (by omega) (by omega) (zE_m) rfl inX0 1 (by omega) rfl hl rfl hdg kk
theorem pf_X0_next (X : zC p m c cc nL s args own D k a) (hH : zH D k a s g H locs)  {idx : Nat} {x : Int32}  (hl : .fieldLink own idx "KeptPlans$History" "next" "I" ∈ GW) (hdg : decode cc pc = .ok (.putfield idx, 3))
    (kk : ∀ (H1 : Heap) (locs1 : List Loc), zH D k a s (zUp g 6 (upd (g 6) 0 x)) H1 locs1 → W p l e R s m args below meth c H1 locs1 cells slots Q (F0 m (pc + 3) ls rest)) : W p l e R s m args below meth c H locs cells slots Q (F0 m pc ls (.int x :: .ref (a 6 1) :: rest)) :=
  z_put X hH (C := RX0) (T := TX0) (N := 3) (by omega) (by omega) (zE_m) rfl inX0 tyX0 tyX0_ok nmX0 1 (by omega) rfl hl rfl (ty := .int) (by decide +kernel) rfl rfl (by simp [zMi]) (zUp g 6 (upd (g 6) 0 x)) (by rw [zE_m]; simp [zMi, zUp, upd]) (zE_mi (fun j hj => zUp_n g _ (by omega)) (fun r hr hne => by rcases (show r = 0 ∨ r = 1 ∨ r = 2 ∨ r = 3 ∨ r = 4 ∨ r = 5 ∨ r = 6 ∨ r = 7 ∨ r = 8 ∨ r = 9 ∨ r = 10 by omega) with rfl | rfl | rfl | rfl | rfl | rfl | rfl | rfl | rfl | rfl | rfl <;> first | (exact absurd rfl hne) | (exact zMi_9 (fun j h1 h2 => zUp_n g _ (by omega))) | simp [zMi, zUp, upd])) hdg kk
theorem gf_X0_size (X : zC p m c cc nL s args own D k a) (hH : zH D k a s g H locs)  {idx : Nat} (hl : .fieldLink own idx "KeptPlans$History" "size" "I" ∈ GW) (hdg : decode cc pc = .ok (.getfield idx, 3))
    (kk : W p l e R s m args below meth c H locs cells slots Q (F0 m (pc + 3) ls (.int (g 6 1) :: rest))) : W p l e R s m args below meth c H locs cells slots Q (F0 m pc ls (.ref (a 6 1) :: rest)) :=
  z_get X hH (C := RX0) (T := TX0) (N := 3) (by omega) (by omega) (zE_m) rfl inX0 2 (by omega) rfl hl rfl hdg kk
theorem pf_X0_size (X : zC p m c cc nL s args own D k a) (hH : zH D k a s g H locs)  {idx : Nat} {x : Int32}  (hl : .fieldLink own idx "KeptPlans$History" "size" "I" ∈ GW) (hdg : decode cc pc = .ok (.putfield idx, 3))
    (kk : ∀ (H1 : Heap) (locs1 : List Loc), zH D k a s (zUp g 6 (upd (g 6) 1 x)) H1 locs1 → W p l e R s m args below meth c H1 locs1 cells slots Q (F0 m (pc + 3) ls rest)) : W p l e R s m args below meth c H locs cells slots Q (F0 m pc ls (.int x :: .ref (a 6 1) :: rest)) :=
  z_put X hH (C := RX0) (T := TX0) (N := 3) (by omega) (by omega) (zE_m) rfl inX0 tyX0 tyX0_ok nmX0 2 (by omega) rfl hl rfl (ty := .int) (by decide +kernel) rfl rfl (by simp [zMi]) (zUp g 6 (upd (g 6) 1 x)) (by rw [zE_m]; simp [zMi, zUp, upd]) (zE_mi (fun j hj => zUp_n g _ (by omega)) (fun r hr hne => by rcases (show r = 0 ∨ r = 1 ∨ r = 2 ∨ r = 3 ∨ r = 4 ∨ r = 5 ∨ r = 6 ∨ r = 7 ∨ r = 8 ∨ r = 9 ∨ r = 10 by omega) with rfl | rfl | rfl | rfl | rfl | rfl | rfl | rfl | rfl | rfl | rfl <;> first | (exact absurd rfl hne) | (exact zMi_9 (fun j h1 h2 => zUp_n g _ (by omega))) | simp [zMi, zUp, upd])) hdg kk
theorem gf_X2_signs (X : zC p m c cc nL s args own D k a) (hH : zH D k a s g H locs)  {idx : Nat} (hl : .fieldLink own idx "KeptPlans$QuestionText" "signs" "[C" ∈ GW) (hdg : decode cc pc = .ok (.getfield idx, 3))
    (kk : W p l e R s m args below meth c H locs cells slots Q (F0 m (pc + 3) ls (.ref (a 6 4) :: rest))) : W p l e R s m args below meth c H locs cells slots Q (F0 m pc ls (.ref (a 6 3) :: rest)) :=
  z_get X hH (C := RX2) (T := TX2) (N := 7) (by omega) (by omega) (zE_m) rfl inX2 0 (by omega) rfl hl rfl hdg kk
theorem gf_X2_length (X : zC p m c cc nL s args own D k a) (hH : zH D k a s g H locs)  {idx : Nat} (hl : .fieldLink own idx "KeptPlans$QuestionText" "length" "I" ∈ GW) (hdg : decode cc pc = .ok (.getfield idx, 3))
    (kk : W p l e R s m args below meth c H locs cells slots Q (F0 m (pc + 3) ls (.int (g 6 2) :: rest))) : W p l e R s m args below meth c H locs cells slots Q (F0 m pc ls (.ref (a 6 3) :: rest)) :=
  z_get X hH (C := RX2) (T := TX2) (N := 7) (by omega) (by omega) (zE_m) rfl inX2 1 (by omega) rfl hl rfl hdg kk
theorem pf_X2_length (X : zC p m c cc nL s args own D k a) (hH : zH D k a s g H locs)  {idx : Nat} {x : Int32}  (hl : .fieldLink own idx "KeptPlans$QuestionText" "length" "I" ∈ GW) (hdg : decode cc pc = .ok (.putfield idx, 3))
    (kk : ∀ (H1 : Heap) (locs1 : List Loc), zH D k a s (zUp g 6 (upd (g 6) 2 x)) H1 locs1 → W p l e R s m args below meth c H1 locs1 cells slots Q (F0 m (pc + 3) ls rest)) : W p l e R s m args below meth c H locs cells slots Q (F0 m pc ls (.int x :: .ref (a 6 3) :: rest)) :=
  z_put X hH (C := RX2) (T := TX2) (N := 7) (by omega) (by omega) (zE_m) rfl inX2 tyX2 tyX2_ok nmX2 1 (by omega) rfl hl rfl (ty := .int) (by decide +kernel) rfl rfl (by simp [zMi]) (zUp g 6 (upd (g 6) 2 x)) (by rw [zE_m]; simp [zMi, zUp, upd]) (zE_mi (fun j hj => zUp_n g _ (by omega)) (fun r hr hne => by rcases (show r = 0 ∨ r = 1 ∨ r = 2 ∨ r = 3 ∨ r = 4 ∨ r = 5 ∨ r = 6 ∨ r = 7 ∨ r = 8 ∨ r = 9 ∨ r = 10 by omega) with rfl | rfl | rfl | rfl | rfl | rfl | rfl | rfl | rfl | rfl | rfl <;> first | (exact absurd rfl hne) | (exact zMi_9 (fun j h1 h2 => zUp_n g _ (by omega))) | simp [zMi, zUp, upd])) hdg kk
theorem gf_X2_words (X : zC p m c cc nL s args own D k a) (hH : zH D k a s g H locs)  {idx : Nat} (hl : .fieldLink own idx "KeptPlans$QuestionText" "words" "[I" ∈ GW) (hdg : decode cc pc = .ok (.getfield idx, 3))
    (kk : W p l e R s m args below meth c H locs cells slots Q (F0 m (pc + 3) ls (.ref (a 6 5) :: rest))) : W p l e R s m args below meth c H locs cells slots Q (F0 m pc ls (.ref (a 6 3) :: rest)) :=
  z_get X hH (C := RX2) (T := TX2) (N := 7) (by omega) (by omega) (zE_m) rfl inX2 2 (by omega) rfl hl rfl hdg kk
theorem gf_X2_tables (X : zC p m c cc nL s args own D k a) (hH : zH D k a s g H locs)  {idx : Nat} (hl : .fieldLink own idx "KeptPlans$QuestionText" "tables" "[I" ∈ GW) (hdg : decode cc pc = .ok (.getfield idx, 3))
    (kk : W p l e R s m args below meth c H locs cells slots Q (F0 m (pc + 3) ls (.ref (a 6 6) :: rest))) : W p l e R s m args below meth c H locs cells slots Q (F0 m pc ls (.ref (a 6 3) :: rest)) :=
  z_get X hH (C := RX2) (T := TX2) (N := 7) (by omega) (by omega) (zE_m) rfl inX2 3 (by omega) rfl hl rfl hdg kk
theorem gf_X2_numbers (X : zC p m c cc nL s args own D k a) (hH : zH D k a s g H locs)  {idx : Nat} (hl : .fieldLink own idx "KeptPlans$QuestionText" "numbers" "[I" ∈ GW) (hdg : decode cc pc = .ok (.getfield idx, 3))
    (kk : W p l e R s m args below meth c H locs cells slots Q (F0 m (pc + 3) ls (.ref (a 6 7) :: rest))) : W p l e R s m args below meth c H locs cells slots Q (F0 m pc ls (.ref (a 6 3) :: rest)) :=
  z_get X hH (C := RX2) (T := TX2) (N := 7) (by omega) (by omega) (zE_m) rfl inX2 4 (by omega) rfl hl rfl hdg kk
theorem gf_X2_lines (X : zC p m c cc nL s args own D k a) (hH : zH D k a s g H locs)  {idx : Nat} (hl : .fieldLink own idx "KeptPlans$QuestionText" "lines" "I" ∈ GW) (hdg : decode cc pc = .ok (.getfield idx, 3))
    (kk : W p l e R s m args below meth c H locs cells slots Q (F0 m (pc + 3) ls (.int (g 6 3) :: rest))) : W p l e R s m args below meth c H locs cells slots Q (F0 m pc ls (.ref (a 6 3) :: rest)) :=
  z_get X hH (C := RX2) (T := TX2) (N := 7) (by omega) (by omega) (zE_m) rfl inX2 5 (by omega) rfl hl rfl hdg kk
theorem pf_X2_lines (X : zC p m c cc nL s args own D k a) (hH : zH D k a s g H locs)  {idx : Nat} {x : Int32}  (hl : .fieldLink own idx "KeptPlans$QuestionText" "lines" "I" ∈ GW) (hdg : decode cc pc = .ok (.putfield idx, 3))
    (kk : ∀ (H1 : Heap) (locs1 : List Loc), zH D k a s (zUp g 6 (upd (g 6) 3 x)) H1 locs1 → W p l e R s m args below meth c H1 locs1 cells slots Q (F0 m (pc + 3) ls rest)) : W p l e R s m args below meth c H locs cells slots Q (F0 m pc ls (.int x :: .ref (a 6 3) :: rest)) :=
  z_put X hH (C := RX2) (T := TX2) (N := 7) (by omega) (by omega) (zE_m) rfl inX2 tyX2 tyX2_ok nmX2 5 (by omega) rfl hl rfl (ty := .int) (by decide +kernel) rfl rfl (by simp [zMi]) (zUp g 6 (upd (g 6) 3 x)) (by rw [zE_m]; simp [zMi, zUp, upd]) (zE_mi (fun j hj => zUp_n g _ (by omega)) (fun r hr hne => by rcases (show r = 0 ∨ r = 1 ∨ r = 2 ∨ r = 3 ∨ r = 4 ∨ r = 5 ∨ r = 6 ∨ r = 7 ∨ r = 8 ∨ r = 9 ∨ r = 10 by omega) with rfl | rfl | rfl | rfl | rfl | rfl | rfl | rfl | rfl | rfl | rfl <;> first | (exact absurd rfl hne) | (exact zMi_9 (fun j h1 h2 => zUp_n g _ (by omega))) | simp [zMi, zUp, upd])) hdg kk
theorem gf_X2_at (X : zC p m c cc nL s args own D k a) (hH : zH D k a s g H locs)  {idx : Nat} (hl : .fieldLink own idx "KeptPlans$QuestionText" "at" "I" ∈ GW) (hdg : decode cc pc = .ok (.getfield idx, 3))
    (kk : W p l e R s m args below meth c H locs cells slots Q (F0 m (pc + 3) ls (.int (g 6 4) :: rest))) : W p l e R s m args below meth c H locs cells slots Q (F0 m pc ls (.ref (a 6 3) :: rest)) :=
  z_get X hH (C := RX2) (T := TX2) (N := 7) (by omega) (by omega) (zE_m) rfl inX2 6 (by omega) rfl hl rfl hdg kk
theorem pf_X2_at (X : zC p m c cc nL s args own D k a) (hH : zH D k a s g H locs)  {idx : Nat} {x : Int32}  (hl : .fieldLink own idx "KeptPlans$QuestionText" "at" "I" ∈ GW) (hdg : decode cc pc = .ok (.putfield idx, 3))
    (kk : ∀ (H1 : Heap) (locs1 : List Loc), zH D k a s (zUp g 6 (upd (g 6) 4 x)) H1 locs1 → W p l e R s m args below meth c H1 locs1 cells slots Q (F0 m (pc + 3) ls rest)) : W p l e R s m args below meth c H locs cells slots Q (F0 m pc ls (.int x :: .ref (a 6 3) :: rest)) :=
  z_put X hH (C := RX2) (T := TX2) (N := 7) (by omega) (by omega) (zE_m) rfl inX2 tyX2 tyX2_ok nmX2 6 (by omega) rfl hl rfl (ty := .int) (by decide +kernel) rfl rfl (by simp [zMi]) (zUp g 6 (upd (g 6) 4 x)) (by rw [zE_m]; simp [zMi, zUp, upd]) (zE_mi (fun j hj => zUp_n g _ (by omega)) (fun r hr hne => by rcases (show r = 0 ∨ r = 1 ∨ r = 2 ∨ r = 3 ∨ r = 4 ∨ r = 5 ∨ r = 6 ∨ r = 7 ∨ r = 8 ∨ r = 9 ∨ r = 10 by omega) with rfl | rfl | rfl | rfl | rfl | rfl | rfl | rfl | rfl | rfl | rfl <;> first | (exact absurd rfl hne) | (exact zMi_9 (fun j h1 h2 => zUp_n g _ (by omega))) | simp [zMi, zUp, upd])) hdg kk
end ZR
