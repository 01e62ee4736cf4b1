/-! the constructors: n cells at the addresses z, z + 1 .. -/
def zB (z n : Nat) (E : Nat → va_E) : va_W := (List.range n).map (fun i => (z + i, E i))
def zBu (E : Nat → va_E) (n : Nat) (e : va_E) : Nat → va_E := fun j => if j = n then e else E j
theorem zBu_s (E : Nat → va_E) (n : Nat) (e : va_E) : zBu E n e n = e := by simp [zBu]
theorem zBu_n (E : Nat → va_E) {n j : Nat} (e : va_E) (h : j ≠ n) : zBu E n e j = E j := by simp [zBu, h]
def zGe (z : Nat) : Nat → Prop := fun q => z ≤ q
theorem zB_at {z n i : Nat} {E : Nat → va_E} (h : i < n) {e : va_E} (he : E i = e) : (zB z n E)[i]? = some (z + i, e) := by
  subst he
  simp only [zB, List.getElem?_map, List.getElem?_range h, Option.map_some]
theorem zB_k {z n j : Nat} {E : Nat → va_E} {q : Nat × va_E} (h : (zB z n E)[j]? = some q) : j < n ∧ q = (z + j, E j) := by
  have hl : j < n := by
    have := (List.getElem?_eq_some_iff.mp h).1
    simpa [zB] using this
  simp only [zB, List.getElem?_map, List.getElem?_range hl, Option.map_some] at h
  exact ⟨hl, (Option.some.inj h).symm⟩
theorem zB_set {z n i : Nat} {E : Nat → va_E} (h : i < n) {e : va_E} : (zB z n E).set i (z + i, e) = zB z n (zBu E i e) := by
  apply List.ext_getElem?
  intro j
  by_cases hj : j = i
  · subst hj
    rw [List.getElem?_set_self (by simpa [zB] using h), zB_at h (zBu_s _ _ _)]
  · rw [List.getElem?_set_ne (Ne.symm hj)]
    by_cases hl : j < n
    · rw [zB_at hl rfl, zB_at hl (zBu_n _ _ hj)]
    · rw [List.getElem?_eq_none (by simp [zB]; omega), List.getElem?_eq_none (by simp [zB]; omega)]
theorem zB_push {z n : Nat} {E : Nat → va_E} {e : va_E} : zB z n E ++ [(z + n, e)] = zB z (n + 1) (zBu E n e) := by
  apply List.ext_getElem?
  intro j
  by_cases hl : j < n
  · rw [List.getElem?_append_left (by simpa [zB] using hl), zB_at hl rfl, zB_at (by omega) (zBu_n _ _ (by omega))]
  · by_cases hj : j = n
    · subst hj
      rw [List.getElem?_append_right (by simp [zB]), zB_at (by omega) (zBu_s _ _ _)]
      simp [zB]
    · rw [List.getElem?_eq_none (by simp [zB]; omega), List.getElem?_eq_none (by simp [zB]; omega)]
theorem zB_D {z n : Nat} {E : Nat → va_E} : va_D (zGe z) (zB z n E) := by
  refine ⟨fun i j p q hi hj hpq => ?_, fun j q hq => ?_⟩
  · obtain ⟨l1, rfl⟩ := zB_k hi
    obtain ⟨l2, rfl⟩ := zB_k hj
    have : z + i = z + j := hpq
    omega
  · obtain ⟨l1, rfl⟩ := zB_k hq
    exact Nat.le_add_right _ _
theorem zB_to {D : va_G} {z n : Nat} {E E' : Nat → va_E} {H : Heap} (h : va_P D vwCl (zB z n E) H) (he : ∀ j, j < n → va_at D vwCl (z + j, E j) H → va_at D vwCl (z + j, E' j) H) : va_P D vwCl (zB z n E') H := by
  intro j q hq
  obtain ⟨hl, rfl⟩ := zB_k hq
  exact he j hl (h j _ (zB_at hl rfl))
theorem va_at_refs {D : va_G} {cl : List vw_C} {ad : Nat} {cA : ClassId} {n : Nat} {f f' : Nat → Option Nat} {H : Heap} (h : va_at D cl (ad, .inl (cA, n, .inr (.inr (.inr (.inr f))))) H) (hf : ∀ j, j < n → f' j = f j) : va_at D cl (ad, .inl (cA, n, .inr (.inr (.inr (.inr f'))))) H := by
  have e : vp_cell cA (n, .inr (.inr (.inr (.inr f')))) = vp_cell cA (n, .inr (.inr (.inr (.inr f)))) := by
    rw [vp_cell_q, vp_cell_q]
    unfold arrV
    congr 1
    apply congrArg
    funext j
    show va_rf (f' j.val) = va_rf (f j.val)
    rw [hf j.val j.isLt]
  show H[ad]? = some (vp_cell _ _)
  rw [e]
  exact h
def zBH (D : va_G) (z n : Nat) (E : Nat → va_E) (s : State) (H : Heap) (locs : List Loc) : Prop := va_P D vwCl (zB z n E) H ∧ H.size = z + n ∧ va_S (zGe z) s.heap H locs
theorem zBH.to {D : va_G} {z n : Nat} {E E' : Nat → va_E} {s : State} {H : Heap} {locs : List Loc} (h : zBH D z n E s H locs) (he : ∀ j, j < n → va_at D vwCl (z + j, E j) H → va_at D vwCl (z + j, E' j) H) : zBH D z n E' s H locs := ⟨zB_to h.1 he, h.2⟩
theorem zBH.eq {D : va_G} {z n : Nat} {E E' : Nat → va_E} {s : State} {H : Heap} {locs : List Loc} (h : zBH D z n E s H locs) (he : ∀ j, j < n → E' j = E j) : zBH D z n E' s H locs := h.to (fun j hj q => by rw [he j hj]; exact q)
def zBX (U : State) : Prop := va_AO "KeptPlans$Table" U ∧ va_AO "KeptPlans$Plan" U ∧ va_AO "KeptPlans$State" U ∧ va_Nw (.methodLinkNest RX3 28 yX1_init "KeptPlans") U ∧ va_Nw (.methodLinkNest RX5 28 yX2_init "KeptPlans") U
theorem zBX.go {s U : State} (h : zBX s) (hW : s.WarmedH U.vm) : zBX U := by
  obtain ⟨h1, h2, h3, h4, h5⟩ := h
  exact ⟨h1.moved hW.alike, h2.moved hW.alike, h3.moved hW.alike, va_Nw.warmM hW h4, va_Nw.warmM hW h5⟩
theorem zBX.same {u U : State} (h : zBX u) (hv : U.vm = u.vm) : zBX U := by
  obtain ⟨h1, h2, h3, h4, h5⟩ := h
  have hv' : u.vm.Alike U.vm := by rw [hv]; exact Vm.Alike.refl _
  exact ⟨h1.moved hv', h2.moved hv', h3.moved hv', va_Nw.same rfl hv.symm h4, va_Nw.same rfl hv.symm h5⟩
def zBC (p : Program) (m : MethodId) (c : Code) (cc : ByteArray) (nL : Nat) (s : State) (args : Array Value) (own : String) (D : va_G) (k : Nat → ClassId) (z : Nat) : Prop :=
  CallFix p m c cc nL s args GW own ∧ va_K D vwCl (zTy k) s ∧ zBX s ∧ z ≤ s.heap.size
def zBP (D : va_G) (k : Nat → ClassId) (z n : Nat) (E : Nat → va_E) (U : State) : Prop := va_P D vwCl (zB z n E) U.heap ∧ U.heap.size = z + n ∧ va_K D vwCl (zTy k) U ∧ zBX U
theorem zBP.blind {D : va_G} {k : Nat → ClassId} {z n : Nat} {E : Nat → va_E} {As : List Value} : FrameBlind (va_Pc As (zBP D k z n E)) := by
  rintro v U f mk ⟨h0, h1, h2, h3, h4⟩
  exact ⟨h0, h1, h2, va_K.moved (u := U) (U := U.calling f mk v) (Vm.Alike.refl U.vm) h3, zBX.same h4 rfl⟩
abbrev zRoomC (fr lo mc ms : Nat) : Room := { frames := fr, cells := mc, slots := ms, locals := lo }
def zBV (l : Launch) (y : MethodName) (b : ByteArray) (nl fr lo mc ms : Nat) (D : va_G) (k : Nat → ClassId) (z i n : Nat) (E : Nat → va_E) (n' : Nat) (E' : Nat → va_E) : Prop :=
  Met l y (.code y b nl none :: GW) (zRoomC fr lo mc ms) (va_Pc [.ref (z + i)] (zBP D k z n E)) (va_Qv (fun _ : Unit => True) (fun _ t => va_P D vwCl (zB z n' E') t.heap ∧ t.heap.size = z + n') (zGe z)) mc ms (zGe z)
theorem zBV_of {l : Launch} {y : MethodName} {b : ByteArray} {nl fr lo mc ms : Nat} {D : va_G} {k : Nat → ClassId} {z i n : Nat} {E : Nat → va_E} {n' : Nat} {E' : Nat → va_E} {own : String} (hy : plainName own = true) (ho : y.cls = own) (hn : 1 ≤ nl) (hin : y.name = "<init>")
    (body : ∀ {p : Program} {e : Env} {s : State} {m : MethodId} {args : Array Value} {below : List Frame} {meth : Method} {c : Code} (X : zBC p m c b nl s args own D k z) (hin : meth.name = "<init>") (Q : State → Prop)
      (hret : ∀ (H : Heap) (locs : List Loc) (pc : Nat) (ls : Array Slot), zBH D z n' E' s H locs → decode b pc = .ok (.return_, 1) → W p l e (zRoomC fr lo mc ms) s m args below meth c H locs mc ms Q (F0 m pc ls []))
      (hH : zBH D z n E s s.heap []) (ls : Array Slot) (hl : lv_has ls nl [(0, .ref (z + i))]), W p l e (zRoomC fr lo mc ms) s m args below meth c s.heap [] 0 0 Q (F0 m 0 ls [])) : zBV l y b nl fr lo mc ms D k z i n E n' E' := by
  refine Met.ofW (cc := b) (maxL := nl) (ret := none) (by rw [ho]; exact hy) rfl ?_
  intro p e s m args below meth c s₁ B hml hv
  obtain ⟨rfl, hP, hs, hK, hX⟩ := hv
  have hts := atoms_spec (ws := .code y b nl none :: GW) B.pre
  have hown : s.vm.findClass own = some m.cls := by rw [← ho]; exact findClass_of_methodNamed B.named
  have hl := lv_entry [Value.ref (z + i)] (n := nl) hn
  rw [lg_entry_eq]
  have hlocks := B.notSynchronized
  exact body ⟨⟨B.exec, B.bytes, hml, hown, fun w hw => hts w (List.mem_cons_of_mem _ hw)⟩, hK, hX, by rw [hs]; exact Nat.le_add_right _ _⟩ ((name_of_methodNamed B.named B.method).1.trans hin) _
    (fun H locs pc ls h3 h4 => W.vret B.exec B.bytes B.returns (fun t ht hW => ⟨⟨(), rfl, trivial, by rw [ht]; exact h3.1, by rw [ht]; exact h3.2.1⟩, h3.2.2.F ht⟩) h3.2.2.2.2 h4)
    ⟨hP, hs, va_S.rf⟩ _ hl
section ZB
variable {p : Program} {l : Launch} {e : Env} {R : Room} {s : State} {m : MethodId} {args : Array Value} {below : List Frame} {meth : Method} {c : Code} {H : Heap} {locs : List Loc} {cells slots : Nat} {Q : State → Prop}
variable {cc : ByteArray} {nL : Nat} {own : String} {pc : Nat} {ls : Array Slot} {rest : List Value} {D : va_G} {k : Nat → ClassId} {z n : Nat} {E : Nat → va_E}
theorem zBH.grow (hz : z ≤ s.heap.size) (hH : zBH D z n E s H locs) {x : va_E} {H1 : Heap} (z1 : H1.size = z + n + 1) (o1 : ∀ q, q < z + n → H1[q]? = H[q]?) (he : va_at D vwCl (z + n, x) H1) : zBH D z (n + 1) (zBu E n x) s H1 locs := by
  obtain ⟨hP, hs, hS⟩ := hH
  have hle := hS.1
  refine ⟨?_, by omega, by omega, fun q h1 h2 => (o1 q (by omega)).trans (hS.2.1 q h1 h2), hS.2.2⟩
  rw [← zB_push]
  refine (hP.kept (fun j q hq => o1 q.1 (by rw [← hs]; exact (hP j q hq).lt))).app (fun j q hq => ?_)
  have hj : j < 1 := (List.getElem?_eq_some_iff.mp hq).1
  rw [show j = 0 by omega] at hq
  cases hq
  exact he
theorem zBH.put (hH : zBH D z n E s H locs) {i : Nat} (hi : i < n) {x : va_E} {H1 : Heap} {j : Nat} (z1 : H1.size = H.size) (oq : ∀ q, q ≠ z + i → H1[q]? = H[q]?) (he : va_at D vwCl (z + i, x) H1) : zBH D z n (zBu E i x) s H1 (locs ++ [⟨z + i, j⟩]) := by
  obtain ⟨hP, hs, hS⟩ := hH
  refine ⟨?_, by omega, hS.put z1 oq (Nat.le_add_right _ _)⟩
  rw [← zB_set hi]
  exact hP.set zB_D (zB_at hi rfl) he oq
theorem b_obj (X : zBC p m c cc nL s args own D k z) {idx : Nat} (hlk : .methodLink own idx objectInit ∈ GW) (hls : ls.size = nL) (hfr : 1 ≤ R.frames) (hlo : 12 ≤ R.locals) {ad : Nat} (hdg : decode cc pc = .ok (.invokespecial idx, 3))
    (kk : W p l e R s m args below meth c H locs cells slots Q (F0 m (pc + 3) ls [])) : W p l e R s m args below meth c H locs cells slots Q (F0 m pc ls [.ref ad]) := by
  obtain ⟨⟨hx, hb, hml, hown, hts⟩, hK, hX, hz⟩ := X
  exact W.objInit hx hb hown (hts _ hlk) (hts _ q_18) (hts _ q_19) rfl (hls.trans hml.symm) rfl hdg hfr (show (12 : Nat) ≤ R.locals from hlo) kk
theorem b_new (X : zBC p m c cc nL s args own D k z) (hH : zBH D z n E s H locs) {C : String} {T : u_T} {N ci idx : Nat} (hin : ∀ w ∈ u_ws C T N, w ∈ GW) (ty : Nat → FieldType) (hty : ∀ k, k < N → parseFieldDescriptor (T k).2.2.1 = some (ty k)) (hc : vwCl[ci]? = some (C, T, N)) (h1 : .classLink own idx C ∈ GW) (h2 : .instantiable C N ∈ GW) (h3 : .initialized C ∈ GW) (fs : List Value) (hfs : ∀ j, j < N → defaultValue (ty j) = vp_V fs j) (hcells : cells + 1 ≤ R.cells) (hslots : slots + N ≤ R.slots) (hdg : decode cc pc = .ok (.new idx, 3))
    (kk : ∀ H1 : Heap, zBH D z (n + 1) (zBu E n (.inr (ci, fs))) s H1 locs → W p l e R s m args below meth c H1 locs (cells + 1) (slots + N) Q (F0 m (pc + 3) ls (.ref (z + n) :: rest))) : W p l e R s m args below meth c H locs cells slots Q (F0 m pc ls rest) := by
  obtain ⟨⟨hx, hb, hml, hown, hts⟩, hK, hX, hz⟩ := X
  have hKn := hK.1 ci _ hc
  refine W.newcK hx hb hown (hts _ h1) (hts _ h2) (hts _ h3) rfl hdg hcells hslots hKn.2.1 hH.2.1 fun H1 kC hkC e1 z1 o1 => ?_
  exact kk H1 (hH.grow hz z1 o1 ⟨_, hc, (u_born ty hts hin hKn hkC e1 hty).to hfs⟩)
theorem b_newa (X : zBC p m c cc nL s args own D k z) (hH : zBH D z n E s H locs) {atype : ArrayType} {ty : FieldType} (hty : newarray.typeOf atype = ty) (harr : .arrayClass ty ∈ GW) {t0 : Nat} (ht : (zTy k)[t0]? = some (k t0, ty)) {nn : Int32} {N' : Nat} {f : Nat → Int32} (ha : ∀ cA : ClassId, vp_cell cA (N', .inl f) = arrV cA N' (fun _ => defaultValue ty)) (hn : ¬ nn < 0) (hN : nn.toNatClampNeg = N') (hbytes : N' * componentBytes ty ≤ 536870912) (hcells : cells + 1 ≤ R.cells) (hslots : slots + N' ≤ R.slots) (hdg : decode cc pc = .ok (.newarray atype, 2))
    (kk : ∀ H1 : Heap, zBH D z (n + 1) (zBu E n (.inl (k t0, N', .inl f))) s H1 locs → W p l e R s m args below meth c H1 locs (cells + 1) (slots + N') Q (F0 m (pc + 2) ls (.ref (z + n) :: rest))) : W p l e R s m args below meth c H locs cells slots Q (F0 m pc ls (.int nn :: rest)) := by
  obtain ⟨⟨hx, hb, hml, hown, hts⟩, hK, hX, hz⟩ := X
  subst hty
  refine va_newaK hx hb (hts _ harr) rfl hdg rfl hn hN hbytes hcells hslots hH.2.1 fun H1 cA e1 z1 o1 hAr hNm => ?_
  have hcA : cA = k t0 := by
    have h9 := (hK.2 t0 _ ht).2
    cases atype <;> exact Option.some.inj (hNm.symm.trans h9)
  subst hcA
  exact kk H1 (hH.grow hz z1 o1 (show H1[z + n]? = some (vp_cell _ _) by rw [ha]; exact e1))
theorem b_newq (X : zBC p m c cc nL s args own D k z) (hH : zBH D z n E s H locs) {C : String} {idx : Nat} (h1 : .classLink own idx C ∈ GW) (hover : va_AO C s) {t0 : Nat} (ht : (zTy k)[t0]? = some (k t0, .object C)) {nn : Int32} {N' : Nat} (hn : ¬ nn < 0) (hN : nn.toNatClampNeg = N') (hbytes : N' * 4 ≤ 536870912) (hcells : cells + 1 ≤ R.cells) (hslots : slots + N' ≤ R.slots) (hdg : decode cc pc = .ok (.anewarray idx, 3))
    (kk : ∀ H1 : Heap, zBH D z (n + 1) (zBu E n (.inl (k t0, N', .inr (.inr (.inr (.inr (fun _ => none))))))) s H1 locs → W p l e R s m args below meth c H1 locs (cells + 1) (slots + N') Q (F0 m (pc + 3) ls (.ref (z + n) :: rest))) : W p l e R s m args below meth c H locs cells slots Q (F0 m pc ls (.int nn :: rest)) := by
  obtain ⟨⟨hx, hb, hml, hown, hts⟩, hK, hX, hz⟩ := X
  subst hN
  refine W.anew hx hb hown (hts _ h1) (va_AO.use hover) rfl hdg rfl hn hbytes hcells hslots fun cA kA comp f1 f2 f3 f4 => ?_
  have hs := hH.2.1
  have hcA : cA = k t0 := by
    obtain ⟨kA', comp', g1, g2, g3, g4⟩ := (hK.2 t0 _ ht).2
    exact Option.some.inj (f1.symm.trans g4)
  subst hcA
  rw [hs]
  refine kk _ (hH.grow hz (by rw [Array.size_push, hs]) (fun q hq => by rw [Array.getElem?_push, if_neg (by omega)]) ?_)
  show _ = some (vp_cell _ _)
  rw [← hs, Array.getElem?_push_size, arrV_new, vp_cell_q]
  rfl
theorem b_putF (X : zBC p m c cc nL s args own D k z) (hH : zBH D z n E s H locs) {i : Nat} (hi : i < n) {ci idx : Nat} {fs : List Value} {C ref : String} {T : u_T} {N : Nat} (hE : E i = .inr (ci, fs)) (hc : vwCl[ci]? = some (C, T, N)) (hin : ∀ w ∈ u_ws C T N, w ∈ GW) (ty0 : Nat → FieldType) (hty : ∀ k, k < N → parseFieldDescriptor (T k).2.2.1 = some (ty0 k)) (hnm : ∀ a, a < N → ∀ b, b < N → a ≠ b → (T a).2.1 ≠ (T b).2.1) (f : Nat) (hf : f < N) (hr : (T f).1 = ref) (hlk : .fieldLink own idx ref (T f).2.1 (T f).2.2.1 ∈ GW) (hfin : (T f).2.2.2 = true) (hin2 : meth.name = "<init>") (hdecl : (T f).1 = own) {ty : FieldType} {v : Value} (hd : parseFieldDescriptor (T f).2.2.1 = some ty) (hn : narrow ty v = v) (hfit : fits ty v = true) (hlen : f < fs.length)
    (hdg : decode cc pc = .ok (.putfield idx, 3))
    (kk : ∀ (H1 : Heap) (locs1 : List Loc), zBH D z n (zBu E i (.inr (ci, fs.set f v))) s H1 locs1 → W p l e R s m args below meth c H1 locs1 cells slots Q (F0 m (pc + 3) ls rest)) : W p l e R s m args below meth c H locs cells slots Q (F0 m pc ls (v :: .ref (z + i) :: rest)) := by
  obtain ⟨⟨hx, hb, hml, hown, hts⟩, hK, hX, hz⟩ := X
  have hap := va_apart (own := own) hts hin ty0 hty hnm hK hc
  obtain ⟨r, h1, cell, q1, q2, q3, q4⟩ := hH.1 i _ (zB_at hi hE)
  have hr9 : r = (C, T, N) := Option.some.inj (h1.symm.trans hc)
  subst hr9
  obtain ⟨hS, hfc, kC, hkC, hkind⟩ := hK.1 ci _ hc
  obtain ⟨cf, kf, fi, fd, hi2, hsl⟩ := hS f hf
  have hlay := hts _ (hin _ (u_in_lay hf))
  unfold u_lay at hlay
  rw [if_pos hfin] at hlay
  have hst := (u_facts hfc hkC (u_lays hts hin hf) hi2).1
  have hcf : m.cls = cf := by
    obtain ⟨_, _, c', _, _, _, -, -, hf', -, -, -, hown2, -⟩ := Cond.laysFinal_spec hlay
    have e1 : c' = cf := by have := hi2.symm.trans hf'; simp at this; exact this.1.symm
    rw [hdecl] at hown2
    rw [← e1]; exact Option.some.inj (hown.symm.trans hown2)
  have h6 := u_fits hfc hkC hkind (Or.inr hlay) hi2 hd hn hfit
  refine W.putFinK hx hb hown (hts _ hlk) (by rw [← hr]; exact hi2) hst hcf hin2 (by rw [q2]; exact h6) q1 q3 (by rw [hsl]; exact k2_hasslot (q4 f hf)) rfl rfl hdg fun H' e1 e2 e3 => ?_
  rw [hsl] at e1 ⊢
  exact kk H' _ (hH.put hi e2 e3 ⟨_, hc, t_OB.to (V := updV (vp_V fs) f v) ⟨_, e1, q2, q3, t_set q4 hap hf v⟩ (fun j _ => vp_updV_set hlen v j)⟩)
theorem b_put (X : zBC p m c cc nL s args own D k z) (hH : zBH D z n E s H locs) {i : Nat} (hi : i < n) {ci idx : Nat} {fs : List Value} {C ref : String} {T : u_T} {N : Nat} (hE : E i = .inr (ci, fs)) (hc : vwCl[ci]? = some (C, T, N)) (hin : ∀ w ∈ u_ws C T N, w ∈ GW) (ty0 : Nat → FieldType) (hty : ∀ k, k < N → parseFieldDescriptor (T k).2.2.1 = some (ty0 k)) (hnm : ∀ a, a < N → ∀ b, b < N → a ≠ b → (T a).2.1 ≠ (T b).2.1) (f : Nat) (hf : f < N) (hr : (T f).1 = ref) (hlk : .fieldLink own idx ref (T f).2.1 (T f).2.2.1 ∈ GW) (hfin : (T f).2.2.2 = false) {ty : FieldType} {v : Value} (hd : parseFieldDescriptor (T f).2.2.1 = some ty) (hn : narrow ty v = v) (hfit : fits ty v = true) (hlen : f < fs.length)
    (hdg : decode cc pc = .ok (.putfield idx, 3))
    (kk : ∀ (H1 : Heap) (locs1 : List Loc), zBH D z n (zBu E i (.inr (ci, fs.set f v))) s H1 locs1 → W p l e R s m args below meth c H1 locs1 cells slots Q (F0 m (pc + 3) ls rest)) : W p l e R s m args below meth c H locs cells slots Q (F0 m pc ls (v :: .ref (z + i) :: rest)) := by
  obtain ⟨⟨hx, hb, hml, hown, hts⟩, hK, hX, hz⟩ := X
  have hap := va_apart (own := own) hts hin ty0 hty hnm hK hc
  obtain ⟨r, h1, cell, q1, q2, q3, q4⟩ := hH.1 i _ (zB_at hi hE)
  have hr9 : r = (C, T, N) := Option.some.inj (h1.symm.trans hc)
  subst hr9
  obtain ⟨hS, hfc, kC, hkC, hkind⟩ := hK.1 ci _ hc
  obtain ⟨cf, kf, fi, fd, hi2, hsl⟩ := hS f hf
  have hlay := hts _ (hin _ (u_in_lay hf))
  unfold u_lay at hlay
  rw [if_neg (by rw [hfin]; decide)] at hlay
  have hst := (u_facts hfc hkC (u_lays hts hin hf) hi2).1
  have h6 := u_store hfc hkC hkind hlay hi2 hd hn hfit
  refine W.putK hx hb (f := fd) ⟨hown, hts _ hlk, ⟨_, _, _, (by rw [← hr]; exact hi2)⟩, hst⟩ (by rw [q2]; exact h6) q1 q3 (by rw [hsl]; exact k2_hasslot (q4 f hf)) rfl rfl hdg fun H' e1 e2 e3 => ?_
  rw [hsl] at e1 ⊢
  exact kk H' _ (hH.put hi e2 e3 ⟨_, hc, t_OB.to (V := updV (vp_V fs) f v) ⟨_, e1, q2, q3, t_set q4 hap hf v⟩ (fun j _ => vp_updV_set hlen v j)⟩)
theorem b_iast (X : zBC p m c cc nL s args own D k z) (hH : zBH D z n E s H locs) {i : Nat} (hi : i < n) {N : Nat} {f : Nat → Int32} (hE : E i = .inl (k 1, N, .inl f)) (hN : N < 2 ^ 31) {x jj : Int32} (j : Nat) (hj : j < N) (hjj : jj = nI j) (hdg : decode cc pc = .ok (.iastore, 1))
    (kk : ∀ (H1 : Heap) (locs1 : List Loc), zBH D z n (zBu E i (.inl (k 1, N, .inl (upd f j x)))) s H1 locs1 → W p l e R s m args below meth c H1 locs1 cells slots Q (F0 m (pc + 1) ls rest)) : W p l e R s m args below meth c H locs cells slots Q (F0 m pc ls (.int x :: .int jj :: .ref (z + i) :: rest)) := by
  obtain ⟨⟨hx, hb, hml, hown, hts⟩, hK, hX, hz⟩ := X
  subst hjj
  refine W.iast hx hb (hH.1 i _ (zB_at hi hE)) ((hK.2 1 _ rfl).1 N (fun j => .int (f j))) (fun q => by cases q) (by show ¬ (nI j < 0 ∨ (arrV _ _ _).slots.size ≤ _); rw [arrV_size]; exact z_vpin hj hN) rfl rfl hdg fun H1 e z1 oq => ?_
  refine kk H1 _ (hH.put hi z1 oq ?_)
  show H1[z + i]? = some (vp_cell _ _)
  rw [e, z_cl hj hN]
  rw [vp_cell_i, vp_cell_i, arrV_store]
  congr 2
  funext q
  by_cases hq : q = j
  · subst hq
    simp [updV, upd]
  · simp [updV, upd, hq]
theorem b_aast (X : zBC p m c cc nL s args own D k z) (hH : zBH D z n E s H locs) {i : Nat} (hi : i < n) {N t0 ci qk : Nat} {f : Nat → Option Nat} {r : vw_C} {vs : List Value} (hE : E i = .inl (k t0, N, .inr (.inr (.inr (.inr f))))) (ht : (zTy k)[t0]? = some (k t0, .object r.1)) (hqk : qk < n) (hv : E qk = .inr (ci, vs)) (hc : vwCl[ci]? = some r) (hN : N < 2 ^ 31) (j : Nat) (hj : j < N) (hdg : decode cc pc = .ok (.aastore, 1))
    (kk : ∀ (H1 : Heap) (locs1 : List Loc), zBH D z n (zBu E i (.inl (k t0, N, .inr (.inr (.inr (.inr (va_up f j (some (z + qk)))))))))  s H1 locs1 → W p l e R s m args below meth c H1 locs1 cells slots Q (F0 m (pc + 1) ls rest)) : W p l e R s m args below meth c H locs cells slots Q (F0 m pc ls (.ref (z + qk) :: .int (nI j) :: .ref (z + i) :: rest)) := by
  obtain ⟨⟨hx, hb, hml, hown, hts⟩, hK, hX, hz⟩ := X
  have hin := z_vpin hj hN
  have h0 : ¬ nI j < 0 := fun q => hin (Or.inl q)
  obtain ⟨r', hr', cellV, g1, g2, g3, -⟩ := hH.1 qk _ (zB_at hqk hv)
  have hcls := (hK.1 ci r hc).2
  obtain ⟨kA, comp, k1, k2, k3, -⟩ := (hK.2 t0 _ ht).2
  have hcomp : comp = D.1 ci := Option.some.inj (k3.symm.trans hcls.1)
  subst hcomp
  obtain ⟨kC, hkC, -⟩ := hcls.2
  refine W.aast hx hb (hH.1 i _ (zB_at hi hE)) (fun q h => by cases h) (fun h => by cases h) k1 k2 rfl hkC ⟨h0, by show _ < (arrV _ _ _).slots.size; rw [arrV_size, z_cl hj hN]; exact hj⟩ g1 (fun q h => by rw [g3] at h; cases h) (by rw [g2]; exact hkC) (by rw [g2]; exact va_assign hcls) rfl rfl hdg fun H1 e z1 oq => ?_
  refine kk H1 _ (hH.put hi z1 oq ?_)
  show H1[z + i]? = some (vp_cell _ _)
  rw [e, z_cl hj hN]
  rw [vp_cell_q, vp_cell_q, arrV_store]
  congr 2
  funext q
  by_cases hq : q = j
  · subst hq
    simp [updV, va_up, va_rf]
  · simp [updV, va_up, hq]
theorem b_get (X : zBC p m c cc nL s args own D k z) (hH : zBH D z n E s H locs) {i : Nat} (hi : i < n) {ci idx : Nat} {fs : List Value} {C ref : String} {T : u_T} {N : Nat} (hE : E i = .inr (ci, fs)) (hc : vwCl[ci]? = some (C, T, N)) (hin : ∀ w ∈ u_ws C T N, w ∈ GW) (f : Nat) (hf : f < N) (hr : (T f).1 = ref) (hlk : .fieldLink own idx ref (T f).2.1 (T f).2.2.1 ∈ GW) {v : Value} (hv : fs[f]? = some v) (hdg : decode cc pc = .ok (.getfield idx, 3))
    (kk : W p l e R s m args below meth c H locs cells slots Q (F0 m (pc + 3) ls (v :: rest))) : W p l e R s m args below meth c H locs cells slots Q (F0 m pc ls (.ref (z + i) :: rest)) := by
  obtain ⟨⟨hx, hb, hml, hown, hts⟩, hK, hX, hz⟩ := X
  exact va_get hx hb hts hin hown hK hH.1 i (zB_at hi hE) hc f hf (hts _ hlk) (fun x hx => by rw [← hr]; exact hx) hv hdg kk
theorem b_pre (X : zBC p m c cc nL s args own D k z) (hH : zBH D z n E s H locs) {i : Nat} : ∀ U : State, U.heap = H → s.WarmedH U.vm → va_Pc [.ref (z + i)] (zBP D k z n E) #[.ref (z + i)] U := by
  obtain ⟨-, hK, hX, hz⟩ := X
  intro U hU hW
  exact ⟨rfl, by rw [hU]; exact hH.1, by rw [hU]; exact hH.2.1, va_K.moved hW.alike hK, hX.go hW⟩
theorem b_ctor (X : zBC p m c cc nL s args own D k z) (hH : zBH D z n E s H locs) {y : MethodName} {b : ByteArray} {nl fr lo mc ms i n' idx : Nat} {E' : Nat → va_E} (hM : zBV l y b nl fr lo mc ms D k z i n E n' E') (k1 : .methodLink own idx y ∈ GW) (k2 : .instanceMethod y ∈ GW) (k3 : .initialized y.cls ∈ GW) (k4 : .code y b nl none ∈ GW) (k5 : y.cls ≠ "java/lang/invoke/MethodHandle" ∧ y.cls ≠ "java/lang/invoke/VarHandle" ∧ (parseMethodDescriptor y.desc).map (fun d => d.parameters.length) = some 0) (k6 : y.name = "<init>") (hls : ls.size = nL) (hw : (rest.map fun v => v.category).sum ≤ 8) (hR : fr + 1 ≤ R.frames ∧ 8 + (nl + 11) + lo ≤ R.locals) (hcs : cells + mc ≤ R.cells ∧ slots + ms ≤ R.slots) (hdg : decode cc pc = .ok (.invokespecial idx, 3))
    (kk : ∀ (H1 : Heap) (locs1 : List Loc), zBH D z n' E' s H1 locs1 → W p l e R s m args below meth c H1 locs1 (cells + mc) (slots + ms) Q (F0 m (pc + 3) ls rest)) : W p l e R s m args below meth c H locs cells slots Q (F0 m pc ls (.ref (z + i) :: rest)) := by
  have hts := X.1.2.2.2.2
  exact va_callv (va_runI (As := []) X.1 hM ⟨callB_of 0 hts (zGood (y := y) (b := b) (n := nl) (r := none) k4) rfl rfl rfl (hts _ k3) (hts _ k1) k5 hR, k6, hts _ k2⟩ ⟨zBP.blind, b_pre X hH⟩ rfl rfl hls rfl (lv_room hw) hdg hcs) hH.2.2 (fun _ _ h => h) (fun _ h => h) (fun u t H1 locs1 ht hvm hw hB hz hk hS => kk H1 locs1 ⟨by rw [← ht]; exact hB.1, by rw [← ht]; exact hB.2, hS⟩)
theorem b_ctorN (X : zBC p m c cc nL s args own D k z) (hH : zBH D z n E s H locs) {y : MethodName} {b : ByteArray} {nl fr lo mc ms i n' idx : Nat} {E' : Nat → va_E} {host : String} (hM : zBV l y b nl fr lo mc ms D k z i n E n' E') (k1 : va_Nw (.methodLinkNest own idx y host) s) (k2 : .instanceMethod y ∈ GW) (k3 : .initialized y.cls ∈ GW) (k4 : .code y b nl none ∈ GW) (k5 : y.cls ≠ "java/lang/invoke/MethodHandle" ∧ y.cls ≠ "java/lang/invoke/VarHandle" ∧ (parseMethodDescriptor y.desc).map (fun d => d.parameters.length) = some 0) (k6 : y.name = "<init>") (hls : ls.size = nL) (hw : (rest.map fun v => v.category).sum ≤ 8) (hR : fr + 1 ≤ R.frames ∧ 8 + (nl + 11) + lo ≤ R.locals) (hcs : cells + mc ≤ R.cells ∧ slots + ms ≤ R.slots) (hdg : decode cc pc = .ok (.invokespecial idx, 3))
    (kk : ∀ (H1 : Heap) (locs1 : List Loc), zBH D z n' E' s H1 locs1 → W p l e R s m args below meth c H1 locs1 (cells + mc) (slots + ms) Q (F0 m (pc + 3) ls rest)) : W p l e R s m args below meth c H locs cells slots Q (F0 m pc ls (.ref (z + i) :: rest)) := by
  have hts := X.1.2.2.2.2
  exact va_callv (va_runIN (As := []) X.1 hM ⟨va_cnB 0 hts (zGood (y := y) (b := b) (n := nl) (r := none) k4) rfl rfl rfl k1 (hts _ k3) k5 hR, k6, hts _ k2⟩ ⟨zBP.blind, b_pre X hH⟩ rfl rfl hls rfl (lv_room hw) hdg hcs) hH.2.2 (fun _ _ h => h) (fun _ h => h) (fun u t H1 locs1 ht hvm hw hB hz hk hS => kk H1 locs1 ⟨by rw [← ht]; exact hB.1, by rw [← ht]; exact hB.2, hS⟩)
end ZB
