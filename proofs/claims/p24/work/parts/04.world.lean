/-! the memory: rows of ints; the cells of both systems at addresses a i c (group i, cell c); strings at a 9, their bytes at a 10, the two static rows at a 11 -/
abbrev Mem := Nat → Nat → Int32
def zUp (g : Mem) (i : Nat) (v : Nat → Int32) : Mem := fun j => if j = i then v else g j
theorem zUp_s (g : Mem) (i : Nat) (v : Nat → Int32) : zUp g i v i = v := by simp [zUp]
theorem zUp_n (g : Mem) {i j : Nat} (v : Nat → Int32) (h : j ≠ i) : zUp g i v j = g j := by simp [zUp, h]
theorem zUp_u (g : Mem) (i : Nat) (v w : Nat → Int32) : zUp (zUp g i v) i w = zUp g i w := by funext j; by_cases h : j = i <;> simp [zUp, h]
theorem zUp_id (g : Mem) (i : Nat) : zUp g i (g i) = g := by funext j; by_cases h : j = i <;> simp [zUp, h]
theorem zUp_c (g : Mem) {i j : Nat} (v w : Nat → Int32) (h : i ≠ j) : zUp (zUp g i v) j w = zUp (zUp g j w) i v := by
  funext q
  by_cases h1 : q = i <;> by_cases h2 : q = j <;> simp [zUp, h1, h2] <;> omega
theorem zu_s (v : Nat → Int32) (j : Nat) (x : Int32) : upd v j x j = x := by simp [upd]
theorem zu_n (v : Nat → Int32) {i j : Nat} (x : Int32) (h : j ≠ i) : upd v i x j = v j := by simp [upd, h]
/-- a State's cells -/
def zSt (k : Nat → ClassId) (b : Nat → Nat) (v : Nat → Int32) (c : Nat) : va_E :=
  if c = 0 then .inr (3, [.ref (b 1), .ref (b 2), .ref (b 3), .int (v 145), .int (v 146), .int (v 147), .int (v 148), .int (v 149), .int (v 150), .int (v 151)])
  else if c = 1 then .inl (k 2, 4, .inr (.inr (.inr (.inr (fun i => some (b (4 + i)))))))
  else if c = 2 then .inl (k 3, 12, .inr (.inr (.inr (.inr (fun i => some (b (8 + i)))))))
  else if c = 3 then .inl (k 1, 5, .inl (fun j => if j < 5 then v (8 + j) else 0))
  else if c < 8 then .inr (4, [.int (v (c - 4)), .int (v (4 + (c - 4))), .int (v (152 + (c - 4))), .int (v (156 + (c - 4)))])
  else .inr (1, [.int (v (13 + 11 * (c - 8) + 0)), .int (v (13 + 11 * (c - 8) + 8)), .int (v (13 + 11 * (c - 8) + 1)), .int (v (13 + 11 * (c - 8) + 2)), .int (v (13 + 11 * (c - 8) + 3)), .int (v (13 + 11 * (c - 8) + 4)), .int (v (13 + 11 * (c - 8) + 5)), .int (v (13 + 11 * (c - 8) + 10)), .int (v (13 + 11 * (c - 8) + 9)), .int (v (13 + 11 * (c - 8) + 6)), .int (v (13 + 11 * (c - 8) + 7))])
/-- the other cells -/
def zMi (k : Nat → ClassId) (a : Nat → Nat → Nat) (g : Mem) (c : Nat) : va_E :=
  if c = 0 then .inr (5, [.ref (a 0 0), .ref (a 1 0), .ref (a 6 1), .ref (a 6 3), .int (g 6 5)])
  else if c = 1 then .inr (0, [.ref (a 6 2), .int (g 6 0), .int (g 6 1)])
  else if c = 2 then .inl (k 4, 4, .inr (.inr (.inr (.inr (fun i => some (a (2 + i) 0))))))
  else if c = 3 then .inr (2, [.ref (a 6 4), .int (g 6 2), .ref (a 6 5), .ref (a 6 6), .ref (a 6 7), .int (g 6 3), .int (g 6 4)])
  else if c = 4 then .inl (k 0, 80, .inl (g 7))
  else if c = 5 then .inl (k 1, 11, .inl (g 8))
  else if c = 6 then .inl (k 1, 11, .inl (g 9))
  else if c = 7 then .inl (k 1, 11, .inl (g 17))
  else if c = 8 then .inr (6, [.ref (a 6 9), .int (g 18 0), .int (g 18 1), .ref (a 6 10), .int (g 18 2), .int (g 18 3), .int (g 18 4), .int (g 18 5), .int (g 18 6), .int (g 18 7), .int (g 18 8), .int (g 18 9)])
  else if c = 9 then .inl (k 1, 1120, .inl (fun j => if j < 1120 then g (10 + j / 160) (j % 160) else 0))
  else .inl (k 0, 80, .inl (g 19))
def zE (k : Nat → ClassId) (a : Nat → Nat → Nat) (g : Mem) (i c : Nat) : va_E := if i < 6 then zSt k (a i) (g i) c else zMi k a g c
def zW (k : Nat → ClassId) (a : Nat → Nat → Nat) (g : Mem) : va_W := (List.range 128).map (fun i => (a (i / 20) (i % 20), zE k a g (i / 20) (i % 20)))
def zInj (a : Nat → Nat → Nat) : Prop := ∀ i j, i < 128 → j < 128 → a (i / 20) (i % 20) = a (j / 20) (j % 20) → i = j
def zA (a : Nat → Nat → Nat) : Nat → Prop := fun q => ∃ i, i < 128 ∧ q = a (i / 20) (i % 20)
abbrev zTy (k : Nat → ClassId) : List (ClassId × FieldType) := [(k 0, .char), (k 1, .int), (k 2, .object "KeptPlans$Table"), (k 3, .object "KeptPlans$Plan"), (k 4, .object "KeptPlans$State")]
theorem zW_at {k : Nat → ClassId} {a : Nat → Nat → Nat} {g : Mem} {i c : Nat} (hc : c < 20) (h : 20 * i + c < 128) {e : va_E} (he : zE k a g i c = e) : (zW k a g)[20 * i + c]? = some (a i c, e) := by
  subst he
  have h1 : (20 * i + c) / 20 = i := by omega
  have h2 : (20 * i + c) % 20 = c := by omega
  simp only [zW, List.getElem?_map, List.getElem?_range h, Option.map_some, h1, h2]
theorem zW_k {k : Nat → ClassId} {a : Nat → Nat → Nat} {g : Mem} {j : Nat} {q : Nat × va_E} (h : (zW k a g)[j]? = some q) : j < 128 ∧ q = (a (j / 20) (j % 20), zE k a g (j / 20) (j % 20)) := by
  have hl : j < 128 := by
    have := (List.getElem?_eq_some_iff.mp h).1
    simpa [zW] using this
  simp only [zW, List.getElem?_map, List.getElem?_range hl, Option.map_some] at h
  exact ⟨hl, (Option.some.inj h).symm⟩
theorem zW_set {k : Nat → ClassId} {a : Nat → Nat → Nat} {g g' : Mem} {i c : Nat} (hc : c < 20) (h : 20 * i + c < 128) {e : va_E} (he : zE k a g' i c = e) (ho : ∀ j, j < 128 → j ≠ 20 * i + c → zE k a g' (j / 20) (j % 20) = zE k a g (j / 20) (j % 20)) : (zW k a g).set (20 * i + c) (a i c, e) = zW k a g' := by
  subst he
  have h1 : (20 * i + c) / 20 = i := by omega
  have h2 : (20 * i + c) % 20 = c := by omega
  apply List.ext_getElem?
  intro j
  by_cases hj : j = 20 * i + c
  · subst hj
    rw [List.getElem?_set_self (by simpa [zW] using h), zW_at hc h rfl]
  · rw [List.getElem?_set_ne (Ne.symm hj)]
    by_cases hl : j < 128
    · simp only [zW, List.getElem?_map, List.getElem?_range hl, Option.map_some, ho j hl hj]
    · rw [List.getElem?_eq_none (by simp [zW]; omega), List.getElem?_eq_none (by simp [zW]; omega)]
theorem zD {k : Nat → ClassId} {a : Nat → Nat → Nat} {g : Mem} (h : zInj a) : va_D (zA a) (zW k a g) := by
  refine ⟨fun i j p q hi hj hpq => ?_, fun j q hq => ?_⟩
  · obtain ⟨l1, rfl⟩ := zW_k hi
    obtain ⟨l2, rfl⟩ := zW_k hj
    exact h i j l1 l2 hpq
  · obtain ⟨l1, rfl⟩ := zW_k hq
    exact ⟨j, l1, rfl⟩
def zLe (j : Nat) : Int32 := if j = 0 then 0 else 1
def zMo (j : Nat) : Int32 := if j = 0 then 999 else if j = 1 then 20 else if j = 2 then 999 else if j = 3 then 12 else 20
def zLen : List Nat := [3, 1, 4, 3, 4, 1, 1]
def zByt : List (List Int32) := [[107, 101, 121], [115], [115, 112, 97, 110], [116, 111, 112], [114, 111, 119, 115], [32], [59]]
/-- what stands outside the cells: static rows, string constants, words of the nest -/
def zX (a : Nat → Nat → Nat) (U : State) (H : Heap) : Prop :=
  va_Z "KeptPlans" "LEAST_SETTING" "[I" (.ref (a 11 0)) (zA a) U H ∧ va_T .int (a 11 0) 5 (fun j => .int (zLe j)) (zA a) U H ∧
  va_Z "KeptPlans" "MOST_SETTING" "[I" (.ref (a 11 1)) (zA a) U H ∧ va_T .int (a 11 1) 5 (fun j => .int (zMo j)) (zA a) U H ∧
  vk_S 7 zLen zByt (a 9) (a 10) (zA a) U H ∧ va_Z "java/lang/String" "COMPACT_STRINGS" "Z" (.int 1) (zA a) U H ∧ va_Zq "jdk/internal/util/Preconditions" "SIOOBE_FORMATTER" "Ljava/util/function/BiFunction;" (zA a) U H ∧
  va_Nw (.methodLinkNest RX3 68 yX5_bitsOf "KeptPlans") U ∧ va_Nw (.methodLinkNest RX3 82 yX5_quotient "KeptPlans") U ∧
  vk_R RX2 65 "key" (a 9 0) U ∧ vk_R RX2 67 "s" (a 9 1) U ∧ vk_R RX2 59 "span" (a 9 2) U ∧ vk_R RX2 61 "top" (a 9 3) U ∧ vk_R RX2 63 "rows" (a 9 4) U ∧ vk_R RX2 69 " " (a 9 5) U ∧ vk_R RX2 39 ";" (a 9 6) U
theorem zX.go {a : Nat → Nat → Nat} {s U : State} {H H0 : Heap} (h : zX a s H0) (hW : s.WarmedH U.vm) (hq : ∀ q : Nat, q < H0.size → ¬ zA a q → H[q]? = H0[q]?) : zX a U H := by
  obtain ⟨h1, h2, h3, h4, h5, h6, h7, h8, h9, r1, r2, r3, r4, r5, r6, r7⟩ := h
  have hv := hW.alike
  exact ⟨(h1.moved hv).kept hq, (h2.moved hv).kept hq, (h3.moved hv).kept hq, (h4.moved hv).kept hq, (h5.moved hv).kept hq, (h6.moved hv).kept hq, (h7.moved hv).kept hq, va_Nw.warmM hW h8, va_Nw.warmM hW h9, r1.warm hW, r2.warm hW, r3.warm hW, r4.warm hW, r5.warm hW, r6.warm hW, r7.warm hW⟩
theorem zX.same {a : Nat → Nat → Nat} {u U : State} {H : Heap} (h : zX a u H) (hv : U.vm = u.vm) : zX a U H := by
  obtain ⟨h1, h2, h3, h4, h5, h6, h7, h8, h9, r1, r2, r3, r4, r5, r6, r7⟩ := h
  have hv' : u.vm.Alike U.vm := by rw [hv]; exact Vm.Alike.refl _
  exact ⟨h1.moved hv', h2.moved hv', h3.moved hv', h4.moved hv', h5.moved hv', h6.moved hv', h7.moved hv', va_Nw.same rfl hv.symm h8, va_Nw.same rfl hv.symm h9, r1.same hv, r2.same hv, r3.same hv, r4.same hv, r5.same hv, r6.same hv, r7.same hv⟩
/-- a method's start -/
def zPc (D : va_G) (k : Nat → ClassId) (a : Nat → Nat → Nat) (g : Mem) (U : State) : Prop := va_P D vwCl (zW k a g) U.heap ∧ va_K D vwCl (zTy k) U ∧ zInj a ∧ zX a U U.heap
theorem zPc.blind {D : va_G} {k : Nat → ClassId} {a : Nat → Nat → Nat} {g : Mem} {As : List Value} : FrameBlind (va_Pc As (zPc D k a g)) := by
  rintro v U f mk ⟨h0, h1, h2, h3, h4⟩
  exact ⟨h0, h1, va_K.moved (u := U) (U := U.calling f mk v) (Vm.Alike.refl U.vm) h2, h3, zX.same h4 rfl⟩
/-- the heap inside a method: the cells as g has them, all else as at its start -/
def zH (D : va_G) (k : Nat → ClassId) (a : Nat → Nat → Nat) (s : State) (g : Mem) (H : Heap) (locs : List Loc) : Prop := va_P D vwCl (zW k a g) H ∧ va_S (zA a) s.heap H locs
/-- what stands fast inside a method -/
def zC (p : Program) (m : MethodId) (c : Code) (cc : ByteArray) (nL : Nat) (s : State) (args : Array Value) (own : String) (D : va_G) (k : Nat → ClassId) (a : Nat → Nat → Nat) : Prop :=
  CallFix p m c cc nL s args GW own ∧ va_K D vwCl (zTy k) s ∧ zInj a ∧ zX a s s.heap
abbrev zRoom (fr lo : Nat) : Room := { frames := fr, cells := 0, slots := 0, locals := lo }
/-- contracts: an int (or boolean, char) comes back, with what 'post' says of it and of the memory -/
def zI (l : Launch) (y : MethodName) (b : ByteArray) (n : Nat) (ret : FieldType) (fr lo : Nat) (D : va_G) (k : Nat → ClassId) (a : Nat → Nat → Nat) (As : List Value) (g : Mem) (post : Int32 → Mem → Prop) : Prop :=
  Met l y (.code y b n (some ret) :: GW) (zRoom fr lo) (va_Pc As (zPc D k a g)) (va_Qi post (fun g2 t => va_P D vwCl (zW k a g2) t.heap) (zA a)) 0 0 (zA a)
def zV (l : Launch) (y : MethodName) (b : ByteArray) (n : Nat) (fr lo : Nat) (D : va_G) (k : Nat → ClassId) (a : Nat → Nat → Nat) (As : List Value) (g : Mem) (post : Mem → Prop) : Prop :=
  Met l y (.code y b n none :: GW) (zRoom fr lo) (va_Pc As (zPc D k a g)) (va_Qv post (fun g2 t => va_P D vwCl (zW k a g2) t.heap) (zA a)) 0 0 (zA a)
def zR (l : Launch) (y : MethodName) (b : ByteArray) (n : Nat) (ret : FieldType) (fr lo : Nat) (D : va_G) (k : Nat → ClassId) (a : Nat → Nat → Nat) (As : List Value) (g : Mem) (ad : Nat) : Prop :=
  Met l y (.code y b n (some ret) :: GW) (zRoom fr lo) (va_Pc As (zPc D k a g)) (va_Qr (fun _ : Unit => True) (fun _ ra t => ra = ad ∧ va_P D vwCl (zW k a g) t.heap) (zA a)) 0 0 (zA a)
theorem zGood {y y' : MethodName} {b b' : ByteArray} {n n' : Nat} {r r' : Option FieldType} (h : Cond.code y' b' n' r' ∈ GW) : GoodIn GW (.code y' b' n' r' :: GW) := by
  intro w hw
  rcases List.mem_cons.mp hw with rfl | hw
  · exact ⟨h, good_of_word (gw_good _ h)⟩
  · exact ⟨hw, good_of_word (gw_good _ hw)⟩
section ZE
variable {l : Launch} {y : MethodName} {b : ByteArray} {n fr lo : Nat} {ret : FieldType} {D : va_G} {k : Nat → ClassId} {a : Nat → Nat → Nat} {As : List Value} {g : Mem} {own : String}
theorem zI_of {post : Int32 → Mem → Prop} (hy : plainName own = true) (ho : y.cls = own) (hn : (lg_sl As).length ≤ n)
    (body : ∀ {p : Program} {e : Env} {s : State} {m : MethodId} {args : Array Value} {below : List Frame} {meth : Method} {c : Code} (X : zC p m c b n s args own D k a) (Q : State → Prop)
      (hret : ∀ (r : Int32) (g' : Mem) (H : Heap) (locs : List Loc) (pc : Nat) (ls : Array Slot), narrow ret (.int r) = .int r → post r g' → zH D k a s g' H locs → decode b pc = .ok (.ireturn, 1) → W p l e (zRoom fr lo) s m args below meth c H locs 0 0 Q (F0 m pc ls [.int r]))
      (hH : zH D k a s g s.heap []) (ls : Array Slot) (hl : lv_has ls n (lv_args 0 As)), W p l e (zRoom fr lo) s m args below meth c s.heap [] 0 0 Q (F0 m 0 ls [])) : zI l y b n ret fr lo D k a As g post := by
  refine Met.ofW (cc := b) (maxL := n) (ret := some ret) (by rw [ho]; exact hy) rfl ?_
  intro p e s m args below meth c s₁ B hml hv
  obtain ⟨rfl, hP, hK, hI, hX⟩ := hv
  have hts := atoms_spec (ws := .code y b n (some ret) :: GW) B.pre
  have hown : s.vm.findClass own = some m.cls := by rw [← ho]; exact findClass_of_methodNamed B.named
  have hl := lv_entry As (n := n) hn
  rw [lg_entry_eq]
  have hlocks := B.notSynchronized
  exact body ⟨⟨B.exec, B.bytes, hml, hown, fun w hw => hts w (List.mem_cons_of_mem _ hw)⟩, hK, hI, hX⟩ _
    (fun r g' H locs pc ls h1 h2 h3 h4 => W.zret B.exec B.bytes B.returns h1 (fun t ht hW => ⟨⟨r, g', rfl, h2, (show va_P D vwCl (zW k a _) t.heap by rw [ht]; exact h3.1)⟩, h3.2.F ht⟩) h3.2.2.2 h4)
    ⟨hP, va_S.rf⟩ _ hl
theorem zV_of {post : Mem → Prop} (hy : plainName own = true) (ho : y.cls = own) (hn : (lg_sl As).length ≤ n)
    (body : ∀ {p : Program} {e : Env} {s : State} {m : MethodId} {args : Array Value} {below : List Frame} {meth : Method} {c : Code} (X : zC p m c b n s args own D k a) (Q : State → Prop)
      (hret : ∀ (g' : Mem) (H : Heap) (locs : List Loc) (pc : Nat) (ls : Array Slot), post g' → zH D k a s g' H locs → decode b pc = .ok (.return_, 1) → W p l e (zRoom fr lo) s m args below meth c H locs 0 0 Q (F0 m pc ls []))
      (hH : zH D k a s g s.heap []) (ls : Array Slot) (hl : lv_has ls n (lv_args 0 As)), W p l e (zRoom fr lo) s m args below meth c s.heap [] 0 0 Q (F0 m 0 ls [])) : zV l y b n fr lo D k a As g post := by
  refine Met.ofW (cc := b) (maxL := n) (ret := none) (by rw [ho]; exact hy) rfl ?_
  intro p e s m args below meth c s₁ B hml hv
  obtain ⟨rfl, hP, hK, hI, hX⟩ := hv
  have hts := atoms_spec (ws := .code y b n none :: GW) B.pre
  have hown : s.vm.findClass own = some m.cls := by rw [← ho]; exact findClass_of_methodNamed B.named
  have hl := lv_entry As (n := n) hn
  rw [lg_entry_eq]
  have hlocks := B.notSynchronized
  exact body ⟨⟨B.exec, B.bytes, hml, hown, fun w hw => hts w (List.mem_cons_of_mem _ hw)⟩, hK, hI, hX⟩ _
    (fun g' H locs pc ls h2 h3 h4 => W.vret B.exec B.bytes B.returns (fun t ht hW => ⟨⟨g', rfl, h2, (show va_P D vwCl (zW k a _) t.heap by rw [ht]; exact h3.1)⟩, h3.2.F ht⟩) h3.2.2.2 h4)
    ⟨hP, va_S.rf⟩ _ hl
theorem zR_of {ad : Nat} (hrt : ∃ C, ret = .object C) (hy : plainName own = true) (ho : y.cls = own) (hn : (lg_sl As).length ≤ n)
    (body : ∀ {p : Program} {e : Env} {s : State} {m : MethodId} {args : Array Value} {below : List Frame} {meth : Method} {c : Code} (X : zC p m c b n s args own D k a) (Q : State → Prop)
      (hret : ∀ (H : Heap) (locs : List Loc) (pc : Nat) (ls : Array Slot), zH D k a s g H locs → decode b pc = .ok (.areturn, 1) → W p l e (zRoom fr lo) s m args below meth c H locs 0 0 Q (F0 m pc ls [.ref ad]))
      (hH : zH D k a s g s.heap []) (ls : Array Slot) (hl : lv_has ls n (lv_args 0 As)), W p l e (zRoom fr lo) s m args below meth c s.heap [] 0 0 Q (F0 m 0 ls [])) : zR l y b n ret fr lo D k a As g ad := by
  refine Met.ofW (cc := b) (maxL := n) (ret := some ret) (by rw [ho]; exact hy) rfl ?_
  intro p e s m args below meth c s₁ B hml hv
  obtain ⟨rfl, hP, hK, hI, hX⟩ := hv
  have hts := atoms_spec (ws := .code y b n (some ret) :: GW) B.pre
  have hown : s.vm.findClass own = some m.cls := by rw [← ho]; exact findClass_of_methodNamed B.named
  have hl := lv_entry As (n := n) hn
  rw [lg_entry_eq]
  have hlocks := B.notSynchronized
  exact body ⟨⟨B.exec, B.bytes, hml, hown, fun w hw => hts w (List.mem_cons_of_mem _ hw)⟩, hK, hI, hX⟩ _
    (fun H locs pc ls h3 h4 => W.aret B.exec B.bytes B.returns (Or.inl hrt) (Or.inr ⟨_, rfl⟩) (fun t ht hW => ⟨⟨(), ad, rfl, trivial, rfl, by rw [ht]; exact h3.1⟩, h3.2.F ht⟩) h3.2.2.2 h4)
    ⟨hP, va_S.rf⟩ _ hl
end ZE
