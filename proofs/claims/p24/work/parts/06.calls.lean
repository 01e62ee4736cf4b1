theorem qm_static : .static Lib.Math.min.name ∈ GW := q_253
theorem qm_init : .initialized "java/lang/Math" ∈ GW := q_7
theorem qm_code : .code Lib.Math.min.name Lib.Math.min.code 2 (some .int) ∈ GW := q_254
theorem qa_static : .static Lib.Math.abs.name ∈ GW := q_289
theorem qa_code : .code Lib.Math.abs.name Lib.Math.abs.code 1 (some .int) ∈ GW := q_290
/-! rows that call, read rows of the memory, count in Nat -/
def zLkV (own : String) (idx : Nat) (y : MethodName) (b : ByteArray) (n : Nat) (ret : Option FieldType) (na : Nat) : Prop := .methodLink own idx y ∈ GW ∧ .instanceMethod y ∈ GW ∧ .selects y.cls y y ∈ GW ∧ .initialized y.cls ∈ GW ∧ .code y b n ret ∈ GW ∧ (y.cls ≠ "java/lang/invoke/MethodHandle" ∧ y.cls ≠ "java/lang/invoke/VarHandle" ∧ (parseMethodDescriptor y.desc).map (fun d => d.parameters.length) = some na)
def zLkS (own : String) (idx : Nat) (y : MethodName) (b : ByteArray) (n : Nat) (ret : Option FieldType) (na : Nat) : Prop := .methodLink own idx y ∈ GW ∧ .static y ∈ GW ∧ .initialized y.cls ∈ GW ∧ .code y b n ret ∈ GW ∧ (y.cls ≠ "java/lang/invoke/MethodHandle" ∧ y.cls ≠ "java/lang/invoke/VarHandle" ∧ (parseMethodDescriptor y.desc).map (fun d => d.parameters.length) = some na)
def zLkN (y : MethodName) (b : ByteArray) (n : Nat) (ret : Option FieldType) (na : Nat) : Prop := .static y ∈ GW ∧ .initialized y.cls ∈ GW ∧ .code y b n ret ∈ GW ∧ (y.cls ≠ "java/lang/invoke/MethodHandle" ∧ y.cls ≠ "java/lang/invoke/VarHandle" ∧ (parseMethodDescriptor y.desc).map (fun d => d.parameters.length) = some na)
section ZC
variable {p : Program} {l : Launch} {e : Env} {R : Room} {s : State} {m : MethodId} {args : Array Value} {below : List Frame} {meth : Method} {c : Code} {H : Heap} {locs : List Loc} {cells slots : Nat} {Q : State → Prop}
variable {cc : ByteArray} {nL : Nat} {own : String} {pc : Nat} {ls : Array Slot} {rest st : List Value} {D : va_G} {k : Nat → ClassId} {a : Nat → Nat → Nat} {g : Mem}
variable {y : MethodName} {b : ByteArray} {n fr lo na idx : Nat} {ret : FieldType} {As : List Value}
theorem z_pre (X : zC p m c cc nL s args own D k a) (hH : zH D k a s g H locs) : ∀ U : State, U.heap = H → s.WarmedH U.vm → va_Pc As (zPc D k a g) As.toArray U := by
  obtain ⟨-, hK, hI, hX⟩ := X
  intro U hU hW
  refine ⟨rfl, by rw [hU]; exact hH.1, va_K.moved hW.alike hK, hI, hX.go hW (fun q h1 h2 => by rw [hU]; exact hH.2.2.1 q h1 h2)⟩
theorem z_cwV (X : zC p m c cc nL s args own D k a) {r : Option FieldType} (lk : zLkV own idx y b n r na) (hR : fr + 1 ≤ R.frames ∧ 8 + (n + 11) + lo ≤ R.locals) : CallW R s args own y.cls idx y b n r (.code y b n r :: GW) (zRoom fr lo) 0 0 na := by
  obtain ⟨⟨-, -, -, -, hts⟩, -⟩ := X
  obtain ⟨h1, h2, h3, h4, h5, h6⟩ := lk
  exact ⟨callB_of na hts (zGood (y := y) (b := b) (n := n) (r := r) h5) rfl rfl rfl (hts _ h4) (hts _ h1) h6 hR, hts _ h2, hts _ h3⟩
theorem z_cwS (X : zC p m c cc nL s args own D k a) {r : Option FieldType} (lk : zLkS own idx y b n r na) (hR : fr + 1 ≤ R.frames ∧ 8 + (n + 11) + lo ≤ R.locals) : CallB R s args own idx y b n r (.code y b n r :: GW) (zRoom fr lo) 0 0 na ∧ (Cond.static y).before args s = true := by
  obtain ⟨⟨-, -, -, -, hts⟩, -⟩ := X
  obtain ⟨h1, h2, h4, h5, h6⟩ := lk
  exact ⟨callB_of na hts (zGood (y := y) (b := b) (n := n) (r := r) h5) rfl rfl rfl (hts _ h4) (hts _ h1) h6 hR, hts _ h2⟩
theorem z_callVi {post : Int32 → Mem → Prop} {i q : Nat} (X : zC p m c cc nL s args own D k a) (hH : zH D k a s g H locs) (hM : zI l y b n ret fr lo D k a (.ref (a i q) :: As) g post) (lk : zLkV own idx y b n (some ret) na) (hrc : ∃ cell : Cell, H[a i q]? = some cell ∧ cell.vm.isStatics = false ∧ s.vm.findClass y.cls = some cell.cls) (rest : List Value) (hst : st = As.reverse ++ .ref (a i q) :: rest) (hna : As.length = na) (hls : ls.size = nL) (hw : (rest.map fun v => v.category).sum ≤ 8) (hR : fr + 1 ≤ R.frames ∧ 8 + (n + 11) + lo ≤ R.locals) (hcs : cells ≤ R.cells ∧ slots ≤ R.slots) (hdg : decode cc pc = .ok (.invokevirtual idx, 3))
    (kk : ∀ (r : Int32) (g' : Mem) (H1 : Heap) (locs1 : List Loc), post r g' → zH D k a s g' H1 locs1 → W p l e R s m args below meth c H1 locs1 cells slots Q (F0 m (pc + 3) ls (.int r :: rest))) : W p l e R s m args below meth c H locs cells slots Q (F0 m pc ls st) :=
  va_calli (va_runV X.1 hM (z_cwV X lk hR) ⟨zPc.blind, hrc, z_pre X hH⟩ rfl hna hls hst (lv_room hw) hdg hcs) hH.2 (fun _ _ h => h) (fun _ h => h) (fun r u t H1 locs1 ht hvm hw hB hz hk hS => kk r u H1 locs1 hw ⟨by rw [← ht]; exact hB, hS⟩)
theorem z_callVv {post : Mem → Prop} {i q : Nat} (X : zC p m c cc nL s args own D k a) (hH : zH D k a s g H locs) (hM : zV l y b n fr lo D k a (.ref (a i q) :: As) g post) (lk : zLkV own idx y b n none na) (hrc : ∃ cell : Cell, H[a i q]? = some cell ∧ cell.vm.isStatics = false ∧ s.vm.findClass y.cls = some cell.cls) (rest : List Value) (hst : st = As.reverse ++ .ref (a i q) :: rest) (hna : As.length = na) (hls : ls.size = nL) (hw : (rest.map fun v => v.category).sum ≤ 8) (hR : fr + 1 ≤ R.frames ∧ 8 + (n + 11) + lo ≤ R.locals) (hcs : cells ≤ R.cells ∧ slots ≤ R.slots) (hdg : decode cc pc = .ok (.invokevirtual idx, 3))
    (kk : ∀ (g' : Mem) (H1 : Heap) (locs1 : List Loc), post g' → zH D k a s g' H1 locs1 → W p l e R s m args below meth c H1 locs1 cells slots Q (F0 m (pc + 3) ls rest)) : W p l e R s m args below meth c H locs cells slots Q (F0 m pc ls st) :=
  va_callv (va_runV X.1 hM (z_cwV X lk hR) ⟨zPc.blind, hrc, z_pre X hH⟩ rfl hna hls hst (lv_room hw) hdg hcs) hH.2 (fun _ _ h => h) (fun _ h => h) (fun u t H1 locs1 ht hvm hw hB hz hk hS => kk u H1 locs1 hw ⟨by rw [← ht]; exact hB, hS⟩)
theorem z_callVr {ad : Nat} {i q : Nat} (X : zC p m c cc nL s args own D k a) (hH : zH D k a s g H locs) (hM : zR l y b n ret fr lo D k a (.ref (a i q) :: As) g ad) (lk : zLkV own idx y b n (some ret) na) (hrc : ∃ cell : Cell, H[a i q]? = some cell ∧ cell.vm.isStatics = false ∧ s.vm.findClass y.cls = some cell.cls) (rest : List Value) (hst : st = As.reverse ++ .ref (a i q) :: rest) (hna : As.length = na) (hls : ls.size = nL) (hw : (rest.map fun v => v.category).sum ≤ 8) (hR : fr + 1 ≤ R.frames ∧ 8 + (n + 11) + lo ≤ R.locals) (hcs : cells ≤ R.cells ∧ slots ≤ R.slots) (hdg : decode cc pc = .ok (.invokevirtual idx, 3))
    (kk : ∀ (H1 : Heap) (locs1 : List Loc), zH D k a s g H1 locs1 → W p l e R s m args below meth c H1 locs1 cells slots Q (F0 m (pc + 3) ls (.ref ad :: rest))) : W p l e R s m args below meth c H locs cells slots Q (F0 m pc ls st) :=
  va_callr (va_runV X.1 hM (z_cwV X lk hR) ⟨zPc.blind, hrc, z_pre X hH⟩ rfl hna hls hst (lv_room hw) hdg hcs) hH.2 (fun _ _ h => h) (fun _ h => h) (fun u ra t H1 locs1 ht hvm hw hB hz hk hS => by
    obtain ⟨rfl, hB⟩ := hB
    exact kk H1 locs1 ⟨by rw [← ht]; exact hB, hS⟩)
theorem z_callSi {post : Int32 → Mem → Prop} (X : zC p m c cc nL s args own D k a) (hH : zH D k a s g H locs) (hM : zI l y b n ret fr lo D k a As g post) (lk : zLkS own idx y b n (some ret) na) (rest : List Value) (hst : st = As.reverse ++ rest) (hna : As.length = na) (hls : ls.size = nL) (hw : (rest.map fun v => v.category).sum ≤ 8) (hR : fr + 1 ≤ R.frames ∧ 8 + (n + 11) + lo ≤ R.locals) (hcs : cells ≤ R.cells ∧ slots ≤ R.slots) (hdg : decode cc pc = .ok (.invokestatic idx, 3))
    (kk : ∀ (r : Int32) (g' : Mem) (H1 : Heap) (locs1 : List Loc), post r g' → zH D k a s g' H1 locs1 → W p l e R s m args below meth c H1 locs1 cells slots Q (F0 m (pc + 3) ls (.int r :: rest))) : W p l e R s m args below meth c H locs cells slots Q (F0 m pc ls st) :=
  va_calli (va_runS X.1 hM (z_cwS X lk hR) ⟨zPc.blind, z_pre X hH⟩ rfl hna hls hst (lv_room hw) hdg hcs) hH.2 (fun _ _ h => h) (fun _ h => h) (fun r u t H1 locs1 ht hvm hw hB hz hk hS => kk r u H1 locs1 hw ⟨by rw [← ht]; exact hB, hS⟩)
theorem z_callSv {post : Mem → Prop} (X : zC p m c cc nL s args own D k a) (hH : zH D k a s g H locs) (hM : zV l y b n fr lo D k a As g post) (lk : zLkS own idx y b n none na) (rest : List Value) (hst : st = As.reverse ++ rest) (hna : As.length = na) (hls : ls.size = nL) (hw : (rest.map fun v => v.category).sum ≤ 8) (hR : fr + 1 ≤ R.frames ∧ 8 + (n + 11) + lo ≤ R.locals) (hcs : cells ≤ R.cells ∧ slots ≤ R.slots) (hdg : decode cc pc = .ok (.invokestatic idx, 3))
    (kk : ∀ (g' : Mem) (H1 : Heap) (locs1 : List Loc), post g' → zH D k a s g' H1 locs1 → W p l e R s m args below meth c H1 locs1 cells slots Q (F0 m (pc + 3) ls rest)) : W p l e R s m args below meth c H locs cells slots Q (F0 m pc ls st) :=
  va_callv (va_runS X.1 hM (z_cwS X lk hR) ⟨zPc.blind, z_pre X hH⟩ rfl hna hls hst (lv_room hw) hdg hcs) hH.2 (fun _ _ h => h) (fun _ h => h) (fun u t H1 locs1 ht hvm hw hB hz hk hS => kk u H1 locs1 hw ⟨by rw [← ht]; exact hB, hS⟩)
theorem z_callNi {post : Int32 → Mem → Prop} {host : String} (X : zC p m c cc nL s args own D k a) (hH : zH D k a s g H locs) (hM : zI l y b n ret fr lo D k a As g post) (lk : zLkN y b n (some ret) na) (hnw : va_Nw (.methodLinkNest own idx y host) s) (rest : List Value) (hst : st = As.reverse ++ rest) (hna : As.length = na) (hls : ls.size = nL) (hw : (rest.map fun v => v.category).sum ≤ 8) (hR : fr + 1 ≤ R.frames ∧ 8 + (n + 11) + lo ≤ R.locals) (hcs : cells ≤ R.cells ∧ slots ≤ R.slots) (hdg : decode cc pc = .ok (.invokestatic idx, 3))
    (kk : ∀ (r : Int32) (g' : Mem) (H1 : Heap) (locs1 : List Loc), post r g' → zH D k a s g' H1 locs1 → W p l e R s m args below meth c H1 locs1 cells slots Q (F0 m (pc + 3) ls (.int r :: rest))) : W p l e R s m args below meth c H locs cells slots Q (F0 m pc ls st) := by
  have hts := X.1.2.2.2.2
  obtain ⟨h2, h4, h5, h6⟩ := lk
  exact va_calli (va_runSN X.1 hM ⟨va_cnB na hts (zGood (y := y) (b := b) (n := n) (r := some ret) h5) rfl rfl rfl hnw (hts _ h4) h6 hR, hts _ h2, trivial⟩ ⟨zPc.blind, z_pre X hH⟩ rfl hna hls hst (lv_room hw) hdg hcs) hH.2 (fun _ _ h => h) (fun _ h => h) (fun r u t H1 locs1 ht hvm hw hB hz hk hS => kk r u H1 locs1 hw ⟨by rw [← ht]; exact hB, hS⟩)
theorem z_min (X : zC p m c cc nL s args own D k a) (hl : .methodLink own idx Lib.Math.min.name ∈ GW) (hls : ls.size = nL) (hfr : 1 ≤ R.frames) (hlo : (rest.map fun v => v.category).sum + 13 ≤ R.locals) (hcs : cells ≤ R.cells ∧ slots ≤ R.slots) {x z : Int32} (hdg : decode cc pc = .ok (.invokestatic idx, 3))
    (kk : W p l e R s m args below meth c H locs cells slots Q (F0 m (pc + 3) ls (.int (if z < x then z else x) :: rest))) : W p l e R s m args below meth c H locs cells slots Q (F0 m pc ls (.int z :: .int x :: rest)) := by
  obtain ⟨⟨hx, hb, hml, hown, hts⟩, -⟩ := X
  exact va_mmin hx hb (hml.trans hls.symm) hown (hts _ hl) (hts _ qm_static) (hts _ qm_init) (hts _ qm_code) hfr hlo hcs.1 hcs.2 hdg kk
theorem z_abs (X : zC p m c cc nL s args own D k a) (hl : .methodLink own idx Lib.Math.abs.name ∈ GW) (hls : ls.size = nL) (hfr : 1 ≤ R.frames) (hlo : (rest.map fun v => v.category).sum + 13 ≤ R.locals) (hcs : cells ≤ R.cells ∧ slots ≤ R.slots) {x : Int32} (hdg : decode cc pc = .ok (.invokestatic idx, 3))
    (kk : W p l e R s m args below meth c H locs cells slots Q (F0 m (pc + 3) ls (.int (if 0 ≤ x then x else 0 - x) :: rest))) : W p l e R s m args below meth c H locs cells slots Q (F0 m pc ls (.int x :: rest)) := by
  obtain ⟨⟨hx, hb, hml, hown, hts⟩, -⟩ := X
  exact va_mabs hx hb (hml.trans hls.symm) hown (hts _ hl) (hts _ qa_static) (hts _ qm_init) (hts _ qa_code) hfr hlo hcs.1 hcs.2 hdg kk
/-! receivers -/
theorem rv_X3 (X : zC p m c cc nL s args own D k a) (hH : zH D k a s g H locs) {i : Nat} (hi : i < 6) : ∃ cell : Cell, H[a i 0]? = some cell ∧ cell.vm.isStatics = false ∧ s.vm.findClass RX3 = some cell.cls := z_recv X hH (by omega) (by omega) (zE_state hi) rfl
theorem rv_X4 (X : zC p m c cc nL s args own D k a) (hH : zH D k a s g H locs) {i t : Nat} (hi : i < 6) (ht : t < 4) : ∃ cell : Cell, H[a i (4 + t)]? = some cell ∧ cell.vm.isStatics = false ∧ s.vm.findClass RX4 = some cell.cls := z_recv X hH (by omega) (by omega) (zE_table hi ht) rfl
theorem rv_X1 (X : zC p m c cc nL s args own D k a) (hH : zH D k a s g H locs) {i t : Nat} (hi : i < 6) (ht : t < 12) : ∃ cell : Cell, H[a i (8 + t)]? = some cell ∧ cell.vm.isStatics = false ∧ s.vm.findClass RX1 = some cell.cls := z_recv X hH (by omega) (by omega) (zE_plan hi) rfl
theorem rv_X5 (X : zC p m c cc nL s args own D k a) (hH : zH D k a s g H locs) : ∃ cell : Cell, H[a 6 0]? = some cell ∧ cell.vm.isStatics = false ∧ s.vm.findClass RX5 = some cell.cls := z_recv X hH (by omega) (by omega) zE_m rfl
theorem rv_X0 (X : zC p m c cc nL s args own D k a) (hH : zH D k a s g H locs) : ∃ cell : Cell, H[a 6 1]? = some cell ∧ cell.vm.isStatics = false ∧ s.vm.findClass RX0 = some cell.cls := z_recv X hH (by omega) (by omega) zE_m rfl
theorem rv_X2 (X : zC p m c cc nL s args own D k a) (hH : zH D k a s g H locs) : ∃ cell : Cell, H[a 6 3]? = some cell ∧ cell.vm.isStatics = false ∧ s.vm.findClass RX2 = some cell.cls := z_recv X hH (by omega) (by omega) zE_m rfl
theorem ar_tabs (X : zC p m c cc nL s args own D k a) (hH : zH D k a s g H locs) {i : Nat} (hi : i < 6) (j : Nat) (hj : j < 4) (hdg : decode cc pc = .ok (.aaload, 1)) (kk : W p l e R s m args below meth c H locs cells slots Q (F0 m (pc + 1) ls (.ref (a i (4 + j)) :: rest))) : W p l e R s m args below meth c H locs cells slots Q (F0 m pc ls (.int (nI j) :: .ref (a i 1) :: rest)) :=
  z_aald X hH (by omega) (by omega) (zE_tabs hi) (t0 := 2) rfl (by omega) j hj rfl hdg kk
theorem ar_plans (X : zC p m c cc nL s args own D k a) (hH : zH D k a s g H locs) {i : Nat} (hi : i < 6) (j : Nat) (hj : j < 12) (hdg : decode cc pc = .ok (.aaload, 1)) (kk : W p l e R s m args below meth c H locs cells slots Q (F0 m (pc + 1) ls (.ref (a i (8 + j)) :: rest))) : W p l e R s m args below meth c H locs cells slots Q (F0 m pc ls (.int (nI j) :: .ref (a i 2) :: rest)) :=
  z_aald X hH (by omega) (by omega) (zE_plans hi) (t0 := 3) rfl (by omega) j hj rfl hdg kk
theorem ar_states (X : zC p m c cc nL s args own D k a) (hH : zH D k a s g H locs) (j : Nat) (hj : j < 4) (hdg : decode cc pc = .ok (.aaload, 1)) (kk : W p l e R s m args below meth c H locs cells slots Q (F0 m (pc + 1) ls (.ref (a (2 + j) 0) :: rest))) : W p l e R s m args below meth c H locs cells slots Q (F0 m pc ls (.int (nI j) :: .ref (a 6 2) :: rest)) :=
  z_aald (i := 6) (q := 2) X hH (by omega) (by omega) zE_m (t0 := 4) rfl (by omega) j hj rfl hdg kk
theorem ar_sets (X : zC p m c cc nL s args own D k a) (hH : zH D k a s g H locs) {i : Nat} (hi : i < 6) (j : Nat) (hj : j < 5) (hdg : decode cc pc = .ok (.iaload, 1)) (kk : W p l e R s m args below meth c H locs cells slots Q (F0 m (pc + 1) ls (.int (g i (8 + j)) :: rest))) : W p l e R s m args below meth c H locs cells slots Q (F0 m pc ls (.int (nI j) :: .ref (a i 3) :: rest)) :=
  z_iald X hH (by omega) (by omega) (zE_sets hi) (by omega) j hj hdg (by rw [if_pos hj]; exact kk)
theorem ar_signs (X : zC p m c cc nL s args own D k a) (hH : zH D k a s g H locs) (j : Nat) (hj : j < 80) (hdg : decode cc pc = .ok (.caload, 1)) (kk : W p l e R s m args below meth c H locs cells slots Q (F0 m (pc + 1) ls (.int (g 7 j) :: rest))) : W p l e R s m args below meth c H locs cells slots Q (F0 m pc ls (.int (nI j) :: .ref (a 6 4) :: rest)) :=
  z_cald (i := 6) (q := 4) X hH (by omega) (by omega) zE_m (by omega) j hj hdg kk
theorem ar_words (X : zC p m c cc nL s args own D k a) (hH : zH D k a s g H locs) (j : Nat) (hj : j < 11) (hdg : decode cc pc = .ok (.iaload, 1)) (kk : W p l e R s m args below meth c H locs cells slots Q (F0 m (pc + 1) ls (.int (g 8 j) :: rest))) : W p l e R s m args below meth c H locs cells slots Q (F0 m pc ls (.int (nI j) :: .ref (a 6 5) :: rest)) :=
  z_iald (i := 6) (q := 5) X hH (by omega) (by omega) zE_m (by omega) j hj hdg kk
theorem ar_tables (X : zC p m c cc nL s args own D k a) (hH : zH D k a s g H locs) (j : Nat) (hj : j < 11) (hdg : decode cc pc = .ok (.iaload, 1)) (kk : W p l e R s m args below meth c H locs cells slots Q (F0 m (pc + 1) ls (.int (g 9 j) :: rest))) : W p l e R s m args below meth c H locs cells slots Q (F0 m pc ls (.int (nI j) :: .ref (a 6 6) :: rest)) :=
  z_iald (i := 6) (q := 6) X hH (by omega) (by omega) zE_m (by omega) j hj hdg kk
theorem ar_numbers (X : zC p m c cc nL s args own D k a) (hH : zH D k a s g H locs) (j : Nat) (hj : j < 11) (hdg : decode cc pc = .ok (.iaload, 1)) (kk : W p l e R s m args below meth c H locs cells slots Q (F0 m (pc + 1) ls (.int (g 17 j) :: rest))) : W p l e R s m args below meth c H locs cells slots Q (F0 m pc ls (.int (nI j) :: .ref (a 6 7) :: rest)) :=
  z_iald (i := 6) (q := 7) X hH (by omega) (by omega) zE_m (by omega) j hj hdg kk
theorem zMi_ne {g' : Mem} {q : Nat} (hq : q ≠ 9) (h6 : g' 6 = g 6) (h18 : g' 18 = g 18) (h7 : q ≠ 4 → g' 7 = g 7) (h8 : q ≠ 5 → g' 8 = g 8) (h9 : q ≠ 6 → g' 9 = g 9) (h17 : q ≠ 7 → g' 17 = g 17) (h19 : q ≠ 10 → g' 19 = g 19) (hs : ∀ j, 10 ≤ j → j < 17 → g' j = g j) : ∀ r, r < 11 → r ≠ q → zMi k a g' r = zMi k a g r := by
  intro r hr hne
  rcases (show r = 0 ∨ r = 1 ∨ r = 2 ∨ r = 3 ∨ r = 4 ∨ r = 5 ∨ r = 6 ∨ r = 7 ∨ r = 8 ∨ r = 9 ∨ r = 10 by omega) with rfl | rfl | rfl | rfl | rfl | rfl | rfl | rfl | rfl | rfl | rfl
  · simp [zMi, h6]
  · simp [zMi, h6]
  · simp [zMi]
  · simp [zMi, h6]
  · simp [zMi, h7 (Ne.symm hne)]
  · simp [zMi, h8 (Ne.symm hne)]
  · simp [zMi, h9 (Ne.symm hne)]
  · simp [zMi, h17 (Ne.symm hne)]
  · simp [zMi, h18]
  · exact zMi_9 hs
  · simp [zMi, h19 (Ne.symm hne)]
theorem as_sets (X : zC p m c cc nL s args own D k a) (hH : zH D k a s g H locs) {i : Nat} (hi : i < 6) (j : Nat) (hj : j < 5) {x : Int32} (hdg : decode cc pc = .ok (.iastore, 1)) (kk : ∀ (H1 : Heap) (locs1 : List Loc), zH D k a s (zUp g i (upd (g i) (8 + j) x)) H1 locs1 → W p l e R s m args below meth c H1 locs1 cells slots Q (F0 m (pc + 1) ls rest)) : W p l e R s m args below meth c H locs cells slots Q (F0 m pc ls (.int x :: .int (nI j) :: .ref (a i 3) :: rest)) := by
  refine z_iast X hH (by omega) (by omega) (zE_sets hi) (by omega) j hj (zUp g i (upd (g i) (8 + j) x)) ?_ (z_ho hi (zo_3 (by omega) (by omega))) hdg kk
  rw [zE_sets hi, zUp_s]
  congr 3
  congr 1
  funext r
  by_cases h1 : r = j
  · subst h1
    simp [upd, hj]
  · have h2 : ¬ 8 + r = 8 + j := by omega
    simp only [upd, h1, h2, if_false]
theorem as_signs (X : zC p m c cc nL s args own D k a) (hH : zH D k a s g H locs) (j : Nat) (hj : j < 80) {x : Int32} (hx : vp_nar .char x = x) (hdg : decode cc pc = .ok (.castore, 1)) (kk : ∀ (H1 : Heap) (locs1 : List Loc), zH D k a s (zUp g 7 (upd (g 7) j x)) H1 locs1 → W p l e R s m args below meth c H1 locs1 cells slots Q (F0 m (pc + 1) ls rest)) : W p l e R s m args below meth c H locs cells slots Q (F0 m pc ls (.int x :: .int (nI j) :: .ref (a 6 4) :: rest)) := by
  refine z_cast (i := 6) (q := 4) X hH (by omega) (by omega) zE_m (by omega) j hj hx (zUp g 7 (upd (g 7) j x)) ?_ (zE_mi (fun r hr => zUp_n g _ (by omega)) (zMi_ne (by omega) (zUp_n g _ (by omega)) (zUp_n g _ (by omega)) (fun h => by first | exact absurd rfl h | exact zUp_n g _ (by omega)) (fun h => by first | exact absurd rfl h | exact zUp_n g _ (by omega)) (fun h => by first | exact absurd rfl h | exact zUp_n g _ (by omega)) (fun h => by first | exact absurd rfl h | exact zUp_n g _ (by omega)) (fun h => by first | exact absurd rfl h | exact zUp_n g _ (by omega)) (fun r h1 h2 => zUp_n g _ (by omega)))) hdg kk
  rw [zE_m]
  simp [zMi, zUp]
theorem as_words (X : zC p m c cc nL s args own D k a) (hH : zH D k a s g H locs) (j : Nat) (hj : j < 11) {x : Int32} (hdg : decode cc pc = .ok (.iastore, 1)) (kk : ∀ (H1 : Heap) (locs1 : List Loc), zH D k a s (zUp g 8 (upd (g 8) j x)) H1 locs1 → W p l e R s m args below meth c H1 locs1 cells slots Q (F0 m (pc + 1) ls rest)) : W p l e R s m args below meth c H locs cells slots Q (F0 m pc ls (.int x :: .int (nI j) :: .ref (a 6 5) :: rest)) := by
  refine z_iast (i := 6) (q := 5) X hH (by omega) (by omega) zE_m (by omega) j hj (zUp g 8 (upd (g 8) j x)) ?_ (zE_mi (fun r hr => zUp_n g _ (by omega)) (zMi_ne (by omega) (zUp_n g _ (by omega)) (zUp_n g _ (by omega)) (fun h => by first | exact absurd rfl h | exact zUp_n g _ (by omega)) (fun h => by first | exact absurd rfl h | exact zUp_n g _ (by omega)) (fun h => by first | exact absurd rfl h | exact zUp_n g _ (by omega)) (fun h => by first | exact absurd rfl h | exact zUp_n g _ (by omega)) (fun h => by first | exact absurd rfl h | exact zUp_n g _ (by omega)) (fun r h1 h2 => zUp_n g _ (by omega)))) hdg kk
  rw [zE_m]
  simp [zMi, zUp]
theorem as_tables (X : zC p m c cc nL s args own D k a) (hH : zH D k a s g H locs) (j : Nat) (hj : j < 11) {x : Int32} (hdg : decode cc pc = .ok (.iastore, 1)) (kk : ∀ (H1 : Heap) (locs1 : List Loc), zH D k a s (zUp g 9 (upd (g 9) j x)) H1 locs1 → W p l e R s m args below meth c H1 locs1 cells slots Q (F0 m (pc + 1) ls rest)) : W p l e R s m args below meth c H locs cells slots Q (F0 m pc ls (.int x :: .int (nI j) :: .ref (a 6 6) :: rest)) := by
  refine z_iast (i := 6) (q := 6) X hH (by omega) (by omega) zE_m (by omega) j hj (zUp g 9 (upd (g 9) j x)) ?_ (zE_mi (fun r hr => zUp_n g _ (by omega)) (zMi_ne (by omega) (zUp_n g _ (by omega)) (zUp_n g _ (by omega)) (fun h => by first | exact absurd rfl h | exact zUp_n g _ (by omega)) (fun h => by first | exact absurd rfl h | exact zUp_n g _ (by omega)) (fun h => by first | exact absurd rfl h | exact zUp_n g _ (by omega)) (fun h => by first | exact absurd rfl h | exact zUp_n g _ (by omega)) (fun h => by first | exact absurd rfl h | exact zUp_n g _ (by omega)) (fun r h1 h2 => zUp_n g _ (by omega)))) hdg kk
  rw [zE_m]
  simp [zMi, zUp]
theorem as_numbers (X : zC p m c cc nL s args own D k a) (hH : zH D k a s g H locs) (j : Nat) (hj : j < 11) {x : Int32} (hdg : decode cc pc = .ok (.iastore, 1)) (kk : ∀ (H1 : Heap) (locs1 : List Loc), zH D k a s (zUp g 17 (upd (g 17) j x)) H1 locs1 → W p l e R s m args below meth c H1 locs1 cells slots Q (F0 m (pc + 1) ls rest)) : W p l e R s m args below meth c H locs cells slots Q (F0 m pc ls (.int x :: .int (nI j) :: .ref (a 6 7) :: rest)) := by
  refine z_iast (i := 6) (q := 7) X hH (by omega) (by omega) zE_m (by omega) j hj (zUp g 17 (upd (g 17) j x)) ?_ (zE_mi (fun r hr => zUp_n g _ (by omega)) (zMi_ne (by omega) (zUp_n g _ (by omega)) (zUp_n g _ (by omega)) (fun h => by first | exact absurd rfl h | exact zUp_n g _ (by omega)) (fun h => by first | exact absurd rfl h | exact zUp_n g _ (by omega)) (fun h => by first | exact absurd rfl h | exact zUp_n g _ (by omega)) (fun h => by first | exact absurd rfl h | exact zUp_n g _ (by omega)) (fun h => by first | exact absurd rfl h | exact zUp_n g _ (by omega)) (fun r h1 h2 => zUp_n g _ (by omega)))) hdg kk
  rw [zE_m]
  simp [zMi, zUp]
theorem n_iadd (hx : p.tables.exec = Jvm.exec) (hb : c.code = cc) {A B : Nat} (C : Nat) (h : A + B = C) (hdg : decode cc pc = .ok (.iadd, 1)) (kk : W p l e R s m args below meth c H locs cells slots Q (F0 m (pc + 1) ls (.int (nI C) :: rest))) : W p l e R s m args below meth c H locs cells slots Q (F0 m pc ls (.int (nI B) :: .int (nI A) :: rest)) :=
  lv_iadd hx hb hdg (by rw [nI_add, h]; exact kk)
theorem n_imul (hx : p.tables.exec = Jvm.exec) (hb : c.code = cc) {A B : Nat} (C : Nat) (h : A * B = C) (hdg : decode cc pc = .ok (.imul, 1)) (kk : W p l e R s m args below meth c H locs cells slots Q (F0 m (pc + 1) ls (.int (nI C) :: rest))) : W p l e R s m args below meth c H locs cells slots Q (F0 m pc ls (.int (nI B) :: .int (nI A) :: rest)) :=
  lv_imul hx hb hdg (by rw [pk_mul, h]; exact kk)
theorem n_isub (hx : p.tables.exec = Jvm.exec) (hb : c.code = cc) {A B : Nat} (C : Nat) (h : C + B = A) (hdg : decode cc pc = .ok (.isub, 1)) (kk : W p l e R s m args below meth c H locs cells slots Q (F0 m (pc + 1) ls (.int (nI C) :: rest))) : W p l e R s m args below meth c H locs cells slots Q (F0 m pc ls (.int (nI B) :: .int (nI A) :: rest)) :=
  lv_isub hx hb hdg (by rw [pk_sub (by omega), show A - B = C by omega]; exact kk)
theorem n_idiv (hx : p.tables.exec = Jvm.exec) (hb : c.code = cc) {A B : Nat} (C : Nat) (h : A / B = C) (hA : A < 2 ^ 31) (h0 : 0 < B) (hB : B < 2 ^ 31) (hdg : decode cc pc = .ok (.idiv, 1)) (kk : W p l e R s m args below meth c H locs cells slots Q (F0 m (pc + 1) ls (.int (nI C) :: rest))) : W p l e R s m args below meth c H locs cells slots Q (F0 m pc ls (.int (nI B) :: .int (nI A) :: rest)) :=
  lv_idiv hx hb hdg (nI_ne0 h0 hB) (by rw [pk_div hA h0 hB, h]; exact kk)
theorem n_irem (hx : p.tables.exec = Jvm.exec) (hb : c.code = cc) {A B : Nat} (C : Nat) (h : A % B = C) (hA : A < 2 ^ 31) (h0 : 0 < B) (hB : B < 2 ^ 31) (hdg : decode cc pc = .ok (.irem, 1)) (kk : W p l e R s m args below meth c H locs cells slots Q (F0 m (pc + 1) ls (.int (nI C) :: rest))) : W p l e R s m args below meth c H locs cells slots Q (F0 m pc ls (.int (nI B) :: .int (nI A) :: rest)) :=
  lv_irem hx hb hdg (nI_ne0 h0 hB) (by rw [pk_rem hA h0 hB, h]; exact kk)
theorem n_icmp_eq (hx : p.tables.exec = Jvm.exec) (hb : c.code = cc) {A B : Nat} (hA : A < 2 ^ 31) (hB : B < 2 ^ 31) {off : Int} {tgt : Nat} (hdg : decode cc pc = .ok (.if_icmp .eq off, 3)) (ht : (pc : Int) + off = (tgt : Int)) (kt : A = B → W p l e R s m args below meth c H locs cells slots Q (F0 m tgt ls rest)) (kf : A ≠ B → W p l e R s m args below meth c H locs cells slots Q (F0 m (pc + 3) ls rest)) : W p l e R s m args below meth c H locs cells slots Q (F0 m pc ls (.int (nI B) :: .int (nI A) :: rest)) :=
  lv_icmp_eq hx hb hdg ht (fun h => kt ((nI_eq hA hB).mp h)) (fun h => kf (fun q => h ((nI_eq hA hB).mpr q)))
theorem n_icmp_ne (hx : p.tables.exec = Jvm.exec) (hb : c.code = cc) {A B : Nat} (hA : A < 2 ^ 31) (hB : B < 2 ^ 31) {off : Int} {tgt : Nat} (hdg : decode cc pc = .ok (.if_icmp .ne off, 3)) (ht : (pc : Int) + off = (tgt : Int)) (kt : A ≠ B → W p l e R s m args below meth c H locs cells slots Q (F0 m tgt ls rest)) (kf : A = B → W p l e R s m args below meth c H locs cells slots Q (F0 m (pc + 3) ls rest)) : W p l e R s m args below meth c H locs cells slots Q (F0 m pc ls (.int (nI B) :: .int (nI A) :: rest)) :=
  lv_icmp_ne hx hb hdg ht (fun h => kt (fun q => h ((nI_eq hA hB).mpr q))) (fun h => kf ((nI_eq hA hB).mp h))
theorem n_icmp_lt (hx : p.tables.exec = Jvm.exec) (hb : c.code = cc) {A B : Nat} (hA : A < 2 ^ 31) (hB : B < 2 ^ 31) {off : Int} {tgt : Nat} (hdg : decode cc pc = .ok (.if_icmp .lt off, 3)) (ht : (pc : Int) + off = (tgt : Int)) (kt : A < B → W p l e R s m args below meth c H locs cells slots Q (F0 m tgt ls rest)) (kf : B ≤ A → W p l e R s m args below meth c H locs cells slots Q (F0 m (pc + 3) ls rest)) : W p l e R s m args below meth c H locs cells slots Q (F0 m pc ls (.int (nI B) :: .int (nI A) :: rest)) :=
  lv_icmp_lt hx hb hdg ht (fun h => kt ((nI_ltI hA hB).mp h)) (fun h => kf (Nat.not_lt.mp (fun q => h ((nI_ltI hA hB).mpr q))))
theorem n_icmp_ge (hx : p.tables.exec = Jvm.exec) (hb : c.code = cc) {A B : Nat} (hA : A < 2 ^ 31) (hB : B < 2 ^ 31) {off : Int} {tgt : Nat} (hdg : decode cc pc = .ok (.if_icmp .ge off, 3)) (ht : (pc : Int) + off = (tgt : Int)) (kt : B ≤ A → W p l e R s m args below meth c H locs cells slots Q (F0 m tgt ls rest)) (kf : A < B → W p l e R s m args below meth c H locs cells slots Q (F0 m (pc + 3) ls rest)) : W p l e R s m args below meth c H locs cells slots Q (F0 m pc ls (.int (nI B) :: .int (nI A) :: rest)) :=
  lv_icmp_ge hx hb hdg ht (fun h => kt ((nI_leI hB hA).mp h)) (fun h => kf (Nat.not_le.mp (fun q => h ((nI_leI hB hA).mpr q))))
theorem n_icmp_gt (hx : p.tables.exec = Jvm.exec) (hb : c.code = cc) {A B : Nat} (hA : A < 2 ^ 31) (hB : B < 2 ^ 31) {off : Int} {tgt : Nat} (hdg : decode cc pc = .ok (.if_icmp .gt off, 3)) (ht : (pc : Int) + off = (tgt : Int)) (kt : B < A → W p l e R s m args below meth c H locs cells slots Q (F0 m tgt ls rest)) (kf : A ≤ B → W p l e R s m args below meth c H locs cells slots Q (F0 m (pc + 3) ls rest)) : W p l e R s m args below meth c H locs cells slots Q (F0 m pc ls (.int (nI B) :: .int (nI A) :: rest)) :=
  lv_icmp_gt hx hb hdg ht (fun h => kt ((nI_ltI hB hA).mp h)) (fun h => kf (Nat.not_lt.mp (fun q => h ((nI_ltI hB hA).mpr q))))
theorem n_icmp_le (hx : p.tables.exec = Jvm.exec) (hb : c.code = cc) {A B : Nat} (hA : A < 2 ^ 31) (hB : B < 2 ^ 31) {off : Int} {tgt : Nat} (hdg : decode cc pc = .ok (.if_icmp .le off, 3)) (ht : (pc : Int) + off = (tgt : Int)) (kt : A ≤ B → W p l e R s m args below meth c H locs cells slots Q (F0 m tgt ls rest)) (kf : B < A → W p l e R s m args below meth c H locs cells slots Q (F0 m (pc + 3) ls rest)) : W p l e R s m args below meth c H locs cells slots Q (F0 m pc ls (.int (nI B) :: .int (nI A) :: rest)) :=
  lv_icmp_le hx hb hdg ht (fun h => kt ((nI_leI hA hB).mp h)) (fun h => kf (Nat.not_le.mp (fun q => h ((nI_leI hA hB).mpr q))))
end ZC

theorem k_J0_492 : zLkV RJ0 492 yJ0_isLatin1_aae02 cJ0_isLatin1_aae02 1 (some .boolean) 0 := ⟨q_402, q_403, q_404, q_8, q_405, by decide +kernel⟩
theorem k_J0_495 : zLkS RJ0 495 yJ1_charAt_3b067 cJ1_charAt_3b067 2 (some .char) 2 := ⟨q_406, q_407, q_9, q_408, by decide +kernel⟩
theorem k_J0_1059 : zLkS RJ0 1059 yJ3_checkIndex_8e157 cJ3_checkIndex_8e157 3 (some .int) 3 := ⟨q_414, q_415, q_10, q_416, by decide +kernel⟩
theorem k_J0_335 : zLkV RJ0 335 yJ0_coder_7d493 cJ0_coder_7d493 1 (some .byte) 0 := ⟨q_392, q_393, q_394, q_8, q_395, by decide +kernel⟩
theorem k_J1_9 : zLkS RJ1 9 yJ0_checkIndex_df160 cJ0_checkIndex_df160 2 none 2 := ⟨q_409, q_410, q_8, q_411, by decide +kernel⟩
theorem k_L_9 : zLkV RL 9 yX5_table cX5_table 5 (some .int) 3 := ⟨q_229, q_230, q_231, q_1, q_232, by decide +kernel⟩
theorem k_L_15 : zLkV RL 15 yX5_pin cX5_pin 3 (some .int) 2 := ⟨q_451, q_452, q_453, q_1, q_454, by decide +kernel⟩
theorem k_L_19 : zLkV RL 19 yX5_throwOut cX5_throwOut 2 (some .int) 1 := ⟨q_460, q_461, q_462, q_1, q_463, by decide +kernel⟩
theorem k_L_23 : zLkV RL 23 yX5_make cX5_make 6 (some .int) 5 := ⟨q_465, q_466, q_467, q_1, q_468, by decide +kernel⟩
theorem k_L_27 : zLkV RL 27 yX5_set cX5_set 4 (some .int) 2 := ⟨q_476, q_477, q_478, q_1, q_479, by decide +kernel⟩
theorem k_L_31 : zLkV RL 31 yX5_ask cX5_ask 3 (some .int) 2 := ⟨q_259, q_260, q_261, q_1, q_262, by decide +kernel⟩
theorem k_L_34 : zLkV RL 34 yX5_plan cX5_plan 4 (some .int) 2 := ⟨q_508, q_509, q_510, q_1, q_511, by decide +kernel⟩
theorem k_L_37 : zLkV RL 37 yX5_reason cX5_reason 3 (some .int) 2 := ⟨q_516, q_517, q_518, q_1, q_519, by decide +kernel⟩
theorem k_L_40 : zLkV RL 40 yX5_tableOf cX5_tableOf 4 (some .int) 2 := ⟨q_539, q_540, q_541, q_1, q_542, by decide +kernel⟩
theorem k_L_43 : zLkV RL 43 yX5_count cX5_count 2 (some .int) 1 := ⟨q_547, q_548, q_549, q_1, q_550, by decide +kernel⟩
theorem k_L_46 : zLkV RL 46 yX5_cost cX5_cost 4 (some .int) 3 := ⟨q_498, q_499, q_500, q_1, q_501, by decide +kernel⟩
theorem k_L_50 : zLkV RL 50 yX5_oldest cX5_oldest 1 (some .int) 0 := ⟨q_534, q_535, q_536, q_1, q_537, by decide +kernel⟩
theorem k_L_61 : zLkV RL 61 yX5_undo cX5_undo 1 (some .int) 0 := ⟨q_485, q_486, q_487, q_1, q_488, by decide +kernel⟩
theorem k_L_64 : zLkV RL 64 yX5_restore cX5_restore 1 (some .int) 0 := ⟨q_493, q_494, q_495, q_1, q_496, by decide +kernel⟩
theorem k_L_67 : zLkV RL 67 yX5_askAll cX5_askAll 5 (some .int) 0 := ⟨q_359, q_360, q_361, q_1, q_362, by decide +kernel⟩
theorem k_L_70 : zLkS RL 70 yL_hangs cL_hangs 14 (some .boolean) 2 := ⟨q_564, q_565, q_0, q_566, by decide +kernel⟩
theorem k_L_76 : zLkS RL 76 yL_cell cL_cell 2 (some .int) 2 := ⟨q_556, q_557, q_0, q_558, by decide +kernel⟩
theorem k_L_80 : zLkV RL 80 yX5_ifAsked cX5_ifAsked 9 (some .int) 3 := ⟨q_521, q_522, q_523, q_1, q_524, by decide +kernel⟩
theorem k_L_54 : zLkV RL 54 yX5_cheapest cX5_cheapest 3 (some .int) 2 := ⟨q_503, q_504, q_505, q_1, q_506, by decide +kernel⟩
theorem k_L_83 : zLkS RL 83 yL_acts cL_acts 4 (some .int) 2 := ⟨q_561, q_562, q_0, q_563, by decide +kernel⟩
theorem k_L_87 : zLkS RL 87 yL_ways cL_ways 8 (some .boolean) 3 := ⟨q_567, q_568, q_0, q_569, by decide +kernel⟩
theorem k_L_57 : zLkV RL 57 yX5_reach cX5_reach 5 (some .int) 2 := ⟨q_530, q_531, q_532, q_1, q_533, by decide +kernel⟩
theorem k_X0_22 : zLkV RX0 22 yX3_copyFrom cX3_copyFrom 3 none 1 := ⟨q_240, q_241, q_242, q_2, q_243, by decide +kernel⟩
theorem k_X2_53 : zLkV RX2 53 yX2_sign cX2_sign 1 (some .int) 0 := ⟨q_375, q_376, q_377, q_6, q_378, by decide +kernel⟩
theorem k_X2_74 : zLkV RX2 74 yJ0_length_8abf5 cJ0_length_8abf5 1 (some .int) 0 := ⟨q_388, q_389, q_390, q_8, q_391, by decide +kernel⟩
theorem k_X2_78 : zLkV RX2 78 yJ0_charAt_5068e cJ0_charAt_5068e 2 (some .char) 1 := ⟨q_398, q_399, q_400, q_8, q_401, by decide +kernel⟩
theorem k_X2_32 : zLkV RX2 32 yX2_readLine cX2_readLine 5 (some .boolean) 1 := ⟨q_367, q_368, q_369, q_6, q_370, by decide +kernel⟩
theorem k_X2_41 : zLkV RX2 41 yX2_pass cX2_pass 3 (some .boolean) 1 := ⟨q_384, q_385, q_386, q_6, q_387, by decide +kernel⟩
theorem k_X2_45 : zLkV RX2 45 yX2_readWord cX2_readWord 1 (some .int) 0 := ⟨q_371, q_372, q_373, q_6, q_374, by decide +kernel⟩
theorem k_X2_49 : zLkV RX2 49 yX2_readNumber cX2_readNumber 5 (some .int) 2 := ⟨q_440, q_441, q_442, q_6, q_443, by decide +kernel⟩
theorem k_X2_71 : zLkV RX2 71 yX2_digit cX2_digit 2 (some .int) 0 := ⟨q_445, q_446, q_447, q_6, q_448, by decide +kernel⟩
theorem k_X2_56 : zLkV RX2 56 yX2_readKeyOrKeys cX2_readKeyOrKeys 1 (some .int) 0 := ⟨q_379, q_380, q_381, q_6, q_382, by decide +kernel⟩
theorem k_X3_116 : zLkV RX3 116 yX3_whyNotUsed cX3_whyNotUsed 4 (some .int) 2 := ⟨q_276, q_277, q_278, q_2, q_279, by decide +kernel⟩
theorem k_X3_119 : zLkV RX3 119 yX3_answerByPlan cX3_answerByPlan 5 (some .int) 2 := ⟨q_295, q_296, q_297, q_2, q_298, by decide +kernel⟩
theorem k_X3_122 : zLkV RX3 122 yX3_answerByLooking cX3_answerByLooking 5 (some .int) 2 := ⟨q_319, q_320, q_321, q_2, q_322, by decide +kernel⟩
theorem k_X3_64 : zLkV RX3 64 yX3_tableUnder cX3_tableUnder 2 (some (.object "KeptPlans$Table")) 1 := ⟨q_284, q_285, q_286, q_2, q_287, by decide +kernel⟩
theorem k_X3_140 : zLkV RX3 140 yX3_cheapestWay cX3_cheapestWay 7 (some .int) 2 := ⟨q_323, q_324, q_325, q_2, q_326, by decide +kernel⟩
theorem k_X3_143 : zLkV RX3 143 yX3_makeRoomFor cX3_makeRoomFor 2 none 1 := ⟨q_327, q_328, q_329, q_2, q_330, by decide +kernel⟩
theorem k_X3_147 : zLkV RX3 147 yX3_couldKeep cX3_couldKeep 2 (some .boolean) 1 := ⟨q_347, q_348, q_349, q_2, q_350, by decide +kernel⟩
theorem k_X3_82 : zLkN yX5_quotient cX5_quotient 2 (some .int) 2 := ⟨q_311, q_1, q_312, by decide +kernel⟩
theorem k_X3_150 : zLkV RX3 150 yX3_place cX3_place 7 none 5 := ⟨q_355, q_356, q_357, q_2, q_358, by decide +kernel⟩
theorem k_X3_85 : zLkV RX3 85 yX3_priceBy cX3_priceBy 7 (some .int) 3 := ⟨q_299, q_300, q_301, q_2, q_302, by decide +kernel⟩
theorem k_X3_136 : zLkV RX3 136 yX3_isTooDear cX3_isTooDear 3 (some .boolean) 2 := ⟨q_315, q_316, q_317, q_2, q_318, by decide +kernel⟩
theorem k_X3_29 : zLkV RX3 29 yX4_copyFrom cX4_copyFrom 2 none 1 := ⟨q_244, q_245, q_246, q_3, q_247, by decide +kernel⟩
theorem k_X3_33 : zLkV RX3 33 yX1_copyFrom cX1_copyFrom 2 none 1 := ⟨q_248, q_249, q_250, q_4, q_251, by decide +kernel⟩
theorem k_X3_160 : zLkV RX3 160 yX3_pinnedPlans cX3_pinnedPlans 3 (some .int) 0 := ⟨q_351, q_352, q_353, q_2, q_354, by decide +kernel⟩
theorem k_X3_164 : zLkV RX3 164 yX3_keptPlans cX3_keptPlans 3 (some .int) 0 := ⟨q_335, q_336, q_337, q_2, q_338, by decide +kernel⟩
theorem k_X3_170 : zLkV RX3 170 yX3_oldestUnpinned cX3_oldestUnpinned 6 (some .int) 0 := ⟨q_343, q_344, q_345, q_2, q_346, by decide +kernel⟩
theorem k_X3_167 : zLkV RX3 167 yX3_lacksRoomFor cX3_lacksRoomFor 2 (some .boolean) 1 := ⟨q_331, q_332, q_333, q_2, q_334, by decide +kernel⟩
theorem k_X3_96 : zLkV RX3 96 yX3_rowsChangedTooMuch cX3_rowsChangedTooMuch 3 (some .boolean) 1 := ⟨q_280, q_281, q_282, q_2, q_283, by decide +kernel⟩
theorem k_X3_100 : zLkV RX3 100 yX3_isTooOld cX3_isTooOld 2 (some .boolean) 1 := ⟨q_291, q_292, q_293, q_2, q_294, by decide +kernel⟩
theorem k_X3_173 : zLkV RX3 173 yX3_crowdOutDownTo cX3_crowdOutDownTo 5 none 1 := ⟨q_339, q_340, q_341, q_2, q_342, by decide +kernel⟩
theorem k_X3_68 : zLkN yX5_bitsOf cX5_bitsOf 2 (some .int) 1 := ⟨q_304, q_1, q_305, by decide +kernel⟩
theorem k_X3_72 : zLkV RX3 72 yX3_rowsMet cX3_rowsMet 5 (some .int) 2 := ⟨q_306, q_307, q_308, q_2, q_309, by decide +kernel⟩
theorem k_X3_176 : zLkV RX3 176 yX3_isStale cX3_isStale 2 (some .boolean) 1 := ⟨q_555, q_513, q_514, q_2, q_515, by decide +kernel⟩
theorem k_X5_62 : zLkS RX5 62 yX5_isShape cX5_isShape 1 (some .boolean) 1 := ⟨q_263, q_264, q_1, q_265, by decide +kernel⟩
theorem k_X5_65 : zLkS RX5 65 yX5_isNumberOf cX5_isNumberOf 2 (some .boolean) 2 := ⟨q_266, q_267, q_1, q_268, by decide +kernel⟩
theorem k_X5_54 : zLkV RX5 54 yX0_record cX0_record 2 none 1 := ⟨q_236, q_237, q_238, q_5, q_239, by decide +kernel⟩
theorem k_X5_69 : zLkV RX5 69 yX3_answer cX3_answer 6 (some .int) 2 := ⟨q_272, q_273, q_274, q_2, q_275, by decide +kernel⟩
theorem k_X5_73 : zLkV RX5 73 yX2_read cX2_read 1 (some .int) 0 := ⟨q_363, q_364, q_365, q_6, q_366, by decide +kernel⟩
theorem k_X5_58 : zLkV RX5 58 yX3_resize cX3_resize 4 none 3 := ⟨q_255, q_256, q_257, q_2, q_258, by decide +kernel⟩
theorem k_X5_157 : zLkV RX5 157 yX3_cheapestWay cX3_cheapestWay 7 (some .int) 2 := ⟨q_507, q_324, q_325, q_2, q_326, by decide +kernel⟩
theorem k_X5_110 : zLkS RX5 110 yX5_isWay cX5_isWay 1 (some .boolean) 1 := ⟨q_469, q_470, q_1, q_471, by decide +kernel⟩
theorem k_X5_153 : zLkV RX5 153 yX3_priceBy cX3_priceBy 7 (some .int) 3 := ⟨q_502, q_300, q_301, q_2, q_302, by decide +kernel⟩
theorem k_X5_107 : zLkV RX5 107 yX3_keptPlans cX3_keptPlans 3 (some .int) 0 := ⟨q_464, q_336, q_337, q_2, q_338, by decide +kernel⟩
theorem k_X5_101 : zLkV RX5 101 yX3_pinnedPlans cX3_pinnedPlans 3 (some .int) 0 := ⟨q_459, q_352, q_353, q_2, q_354, by decide +kernel⟩
theorem k_X5_214 : zLkV RX5 214 yX3_stalePlans cX3_stalePlans 3 (some .int) 0 := ⟨q_551, q_552, q_553, q_2, q_554, by decide +kernel⟩
theorem k_X5_191 : zLkV RX5 191 yX3_whyNotUsed cX3_whyNotUsed 4 (some .int) 2 := ⟨q_520, q_277, q_278, q_2, q_279, by decide +kernel⟩
theorem k_X5_194 : zLkV RX5 194 yX3_isTooDear cX3_isTooDear 3 (some .boolean) 2 := ⟨q_525, q_316, q_317, q_2, q_318, by decide +kernel⟩
theorem k_X5_197 : zLkV RX5 197 yX3_firstCrowdedOutBy cX3_firstCrowdedOutBy 2 (some .int) 1 := ⟨q_526, q_527, q_528, q_2, q_529, by decide +kernel⟩
theorem k_X5_201 : zLkS RX5 201 yX5_leastNumberOf cX5_leastNumberOf 1 (some .int) 1 := ⟨q_269, q_270, q_1, q_271, by decide +kernel⟩
theorem k_X5_114 : zLkV RX5 114 yX3_couldKeep cX3_couldKeep 2 (some .boolean) 1 := ⟨q_473, q_348, q_349, q_2, q_350, by decide +kernel⟩
theorem k_X5_117 : zLkV RX5 117 yX3_makeRoomFor cX3_makeRoomFor 2 none 1 := ⟨q_474, q_328, q_329, q_2, q_330, by decide +kernel⟩
theorem k_X5_121 : zLkV RX5 121 yX3_place cX3_place 7 none 5 := ⟨q_475, q_356, q_357, q_2, q_358, by decide +kernel⟩
theorem k_X5_204 : zLkV RX5 204 yX3_oldestUnpinned cX3_oldestUnpinned 6 (some .int) 0 := ⟨q_538, q_344, q_345, q_2, q_346, by decide +kernel⟩
theorem k_X5_89 : zLkV RX5 89 yX5_hasPlan cX5_hasPlan 2 (some .boolean) 1 := ⟨q_455, q_457, qs_0, q_1, q_458, by decide +kernel⟩
theorem k_X5_181 : zLkV RX5 181 yX3_isStale cX3_isStale 2 (some .boolean) 1 := ⟨q_512, q_513, q_514, q_2, q_515, by decide +kernel⟩
theorem k_X5_150 : zLkV RX5 150 yX3_copyFrom cX3_copyFrom 3 none 1 := ⟨q_497, q_241, q_242, q_2, q_243, by decide +kernel⟩
theorem k_X5_134 : zLkV RX5 134 yX3_crowdOutDownTo cX3_crowdOutDownTo 5 none 1 := ⟨q_484, q_340, q_341, q_2, q_342, by decide +kernel⟩
theorem k_X5_37 : zLkS RX5 37 yX5_isTable cX5_isTable 1 (some .boolean) 1 := ⟨q_233, q_234, q_1, q_235, by decide +kernel⟩
theorem k_X5_207 : zLkV RX5 207 yX3_keptPlansOf cX3_keptPlansOf 4 (some .int) 1 := ⟨q_543, q_544, q_545, q_2, q_546, by decide +kernel⟩
theorem k_X5_147 : zLkV RX5 147 yX0_takeBack cX0_takeBack 2 none 1 := ⟨q_489, q_490, q_491, q_5, q_492, by decide +kernel⟩
