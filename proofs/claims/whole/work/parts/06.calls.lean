theorem qm_static : .static Lib.Math.min.name ∈ GW := q_255
theorem qm_init : .initialized "java/lang/Math" ∈ GW := q_8
theorem qm_code : .code Lib.Math.min.name Lib.Math.min.code 2 (some .int) ∈ GW := q_256
theorem qa_static : .static Lib.Math.abs.name ∈ GW := q_291
theorem qa_code : .code Lib.Math.abs.name Lib.Math.abs.code 1 (some .int) ∈ GW := q_292
/-! rows that call, read rows of the memory, count in Nat -/
def zLkV (own : String) (idx : Nat) (y : MethodName) (b : ByteArray) (n : Nat) (ret : Option FieldType) (na : Nat) : Prop := .methodLink own idx y ∈ GW ∧ .instanceMethod y ∈ GW ∧ .selects y.cls y y ∈ GW ∧ .initialized y.cls ∈ GW ∧ .code y b n ret ∈ GW ∧ (y.cls ≠ "java/lang/invoke/MethodHandle" ∧ y.cls ≠ "java/lang/invoke/VarHandle" ∧ (parseMethodDescriptor y.desc).map (fun d => d.parameters.length) = some na)
def zLkS (own : String) (idx : Nat) (y : MethodName) (b : ByteArray) (n : Nat) (ret : Option FieldType) (na : Nat) : Prop := .methodLink own idx y ∈ GW ∧ .static y ∈ GW ∧ .initialized y.cls ∈ GW ∧ .code y b n ret ∈ GW ∧ (y.cls ≠ "java/lang/invoke/MethodHandle" ∧ y.cls ≠ "java/lang/invoke/VarHandle" ∧ (parseMethodDescriptor y.desc).map (fun d => d.parameters.length) = some na)
def zLkN (y : MethodName) (b : ByteArray) (n : Nat) (ret : Option FieldType) (na : Nat) : Prop := .static y ∈ GW ∧ .initialized y.cls ∈ GW ∧ .code y b n ret ∈ GW ∧ (y.cls ≠ "java/lang/invoke/MethodHandle" ∧ y.cls ≠ "java/lang/invoke/VarHandle" ∧ (parseMethodDescriptor y.desc).map (fun d => d.parameters.length) = some na)
section ZC
variable {p : Program} {l : Launch} {e : Env} {R : Room} {s : State} {m : MethodId} {args : Array Value} {below : List Frame} {meth : Method} {c : Code} {H : Heap} {locs : List Loc} {cells slots : Nat} {Q : State → Prop}
variable {cc : ByteArray} {nL : Nat} {own : String} {pc : Nat} {ls : Array Slot} {rest st : List Value} {D : va_G} {k : Nat → ClassId} {a : Nat → Nat → Nat} {g : Mem}
variable {y : MethodName} {b : ByteArray} {n fr lo na idx : Nat} {ret : FieldType} {As : List Value}
theorem z_pre (X : zC p m c cc nL s args own D k a) (hH : zH D k a s g H locs) : ∀ U : State, U.heap = H → s.WarmedH U.vm → va_Pc As (zPc D k a g) As.toArray U := by
  obtain ⟨-, hK, hI, hX⟩ := X
  intro U hU hW
  refine ⟨rfl, by rw [hU]; exact hH.1, va_K.moved hW.alike hK, hI, hX.go hW (fun q h1 h2 => by rw [hU]; exact hH.2.2.1 q h1 h2)⟩
theorem z_cwV (X : zC p m c cc nL s args own D k a) {r : Option FieldType} (lk : zLkV own idx y b n r na) (hR : fr + 1 ≤ R.frames ∧ 8 + (n + 11) + lo ≤ R.locals) : CallW R s args own y.cls idx y b n r (.code y b n r :: GW) (zRoom fr lo) 0 0 na := by
  obtain ⟨⟨-, -, -, -, hts⟩, -⟩ := X
  obtain ⟨h1, h2, h3, h4, h5, h6⟩ := lk
  exact ⟨callB_of na hts (zGood (y := y) (b := b) (n := n) (r := r) h5) rfl rfl rfl (hts _ h4) (hts _ h1) h6 hR, hts _ h2, hts _ h3⟩
theorem z_cwS (X : zC p m c cc nL s args own D k a) {r : Option FieldType} (lk : zLkS own idx y b n r na) (hR : fr + 1 ≤ R.frames ∧ 8 + (n + 11) + lo ≤ R.locals) : CallB R s args own idx y b n r (.code y b n r :: GW) (zRoom fr lo) 0 0 na ∧ (Cond.static y).before args s = true := by
  obtain ⟨⟨-, -, -, -, hts⟩, -⟩ := X
  obtain ⟨h1, h2, h4, h5, h6⟩ := lk
  exact ⟨callB_of na hts (zGood (y := y) (b := b) (n := n) (r := r) h5) rfl rfl rfl (hts _ h4) (hts _ h1) h6 hR, hts _ h2⟩
theorem z_callVi {post : Int32 → Mem → Prop} {i q : Nat} (X : zC p m c cc nL s args own D k a) (hH : zH D k a s g H locs) (hM : zI l y b n ret fr lo D k a (.ref (a i q) :: As) g post) (lk : zLkV own idx y b n (some ret) na) (hrc : ∃ cell : Cell, H[a i q]? = some cell ∧ cell.vm.isStatics = false ∧ s.vm.findClass y.cls = some cell.cls) (rest : List Value) (hst : st = As.reverse ++ .ref (a i q) :: rest) (hna : As.length = na) (hls : ls.size = nL) (hw : (rest.map fun v => v.category).sum ≤ 8) (hR : fr + 1 ≤ R.frames ∧ 8 + (n + 11) + lo ≤ R.locals) (hcs : cells ≤ R.cells ∧ slots ≤ R.slots) (hdg : decode cc pc = .ok (.invokevirtual idx, 3))
    (kk : ∀ (r : Int32) (g' : Mem) (H1 : Heap) (locs1 : List Loc), post r g' → zH D k a s g' H1 locs1 → W p l e R s m args below meth c H1 locs1 cells slots Q (F0 m (pc + 3) ls (.int r :: rest))) : W p l e R s m args below meth c H locs cells slots Q (F0 m pc ls st) :=
  va_calli (va_runV X.1 hM (z_cwV X lk hR) ⟨zPc.blind, hrc, z_pre X hH⟩ rfl hna hls hst (lv_room hw) hdg hcs) hH.2 (fun _ _ h => h) (fun _ h => h) (fun r u t H1 locs1 ht hvm hw hB hz hk hS => kk r u H1 locs1 hw ⟨by rw [← ht]; exact hB, hS⟩)
theorem z_callVv {post : Mem → Prop} {i q : Nat} (X : zC p m c cc nL s args own D k a) (hH : zH D k a s g H locs) (hM : zV l y b n fr lo D k a (.ref (a i q) :: As) g post) (lk : zLkV own idx y b n none na) (hrc : ∃ cell : Cell, H[a i q]? = some cell ∧ cell.vm.isStatics = false ∧ s.vm.findClass y.cls = some cell.cls) (rest : List Value) (hst : st = As.reverse ++ .ref (a i q) :: rest) (hna : As.length = na) (hls : ls.size = nL) (hw : (rest.map fun v => v.category).sum ≤ 8) (hR : fr + 1 ≤ R.frames ∧ 8 + (n + 11) + lo ≤ R.locals) (hcs : cells ≤ R.cells ∧ slots ≤ R.slots) (hdg : decode cc pc = .ok (.invokevirtual idx, 3))
    (kk : ∀ (g' : Mem) (H1 : Heap) (locs1 : List Loc), post g' → zH D k a s g' H1 locs1 → W p l e R s m args below meth c H1 locs1 cells slots Q (F0 m (pc + 3) ls rest)) : W p l e R s m args below meth c H locs cells slots Q (F0 m pc ls st) :=
  va_callv (va_runV X.1 hM (z_cwV X lk hR) ⟨zPc.blind, hrc, z_pre X hH⟩ rfl hna hls hst (lv_room hw) hdg hcs) hH.2 (fun _ _ h => h) (fun _ h => h) (fun u t H1 locs1 ht hvm hw hB hz hk hS => kk u H1 locs1 hw ⟨by rw [← ht]; exact hB, hS⟩)
theorem z_callVr {ad : Nat} {i q : Nat} (X : zC p m c cc nL s args own D k a) (hH : zH D k a s g H locs) (hM : zR l y b n ret fr lo D k a (.ref (a i q) :: As) g ad) (lk : zLkV own idx y b n (some ret) na) (hrc : ∃ cell : Cell, H[a i q]? = some cell ∧ cell.vm.isStatics = false ∧ s.vm.findClass y.cls = some cell.cls) (rest : List Value) (hst : st = As.reverse ++ .ref (a i q) :: rest) (hna : As.length = na) (hls : ls.size = nL) (hw : (rest.map fun v => v.category).sum ≤ 8) (hR : fr + 1 ≤ R.frames ∧ 8 + (n + 11) + lo ≤ R.locals) (hcs : cells ≤ R.cells ∧ slots ≤ R.slots) (hdg : decode cc pc = .ok (.invokevirtual idx, 3))
    (kk : ∀ (H1 : Heap) (locs1 : List Loc), zH D k a s g H1 locs1 → W p l e R s m args below meth c H1 locs1 cells slots Q (F0 m (pc + 3) ls (.ref ad :: rest))) : W p l e R s m args below meth c H locs cells slots Q (F0 m pc ls st) :=
  va_callr (va_runV X.1 hM (z_cwV X lk hR) ⟨zPc.blind, hrc, z_pre X hH⟩ rfl hna hls hst (lv_room hw) hdg hcs) hH.2 (fun _ _ h => h) (fun _ h => h) (fun u ra t H1 locs1 ht hvm hw hB hz hk hS => by
    obtain ⟨rfl, hB⟩ := hB
    exact kk H1 locs1 ⟨by rw [← ht]; exact hB, hS⟩)
theorem z_callSi {post : Int32 → Mem → Prop} (X : zC p m c cc nL s args own D k a) (hH : zH D k a s g H locs) (hM : zI l y b n ret fr lo D k a As g post) (lk : zLkS own idx y b n (some ret) na) (rest : List Value) (hst : st = As.reverse ++ rest) (hna : As.length = na) (hls : ls.size = nL) (hw : (rest.map fun v => v.category).sum ≤ 8) (hR : fr + 1 ≤ R.frames ∧ 8 + (n + 11) + lo ≤ R.locals) (hcs : cells ≤ R.cells ∧ slots ≤ R.slots) (hdg : decode cc pc = .ok (.invokestatic idx, 3))
    (kk : ∀ (r : Int32) (g' : Mem) (H1 : Heap) (locs1 : List Loc), post r g' → zH D k a s g' H1 locs1 → W p l e R s m args below meth c H1 locs1 cells slots Q (F0 m (pc + 3) ls (.int r :: rest))) : W p l e R s m args below meth c H locs cells slots Q (F0 m pc ls st) :=
  va_calli (va_runS X.1 hM (z_cwS X lk hR) ⟨zPc.blind, z_pre X hH⟩ rfl hna hls hst (lv_room hw) hdg hcs) hH.2 (fun _ _ h => h) (fun _ h => h) (fun r u t H1 locs1 ht hvm hw hB hz hk hS => kk r u H1 locs1 hw ⟨by rw [← ht]; exact hB, hS⟩)
theorem z_callSv {post : Mem → Prop} (X : zC p m c cc nL s args own D k a) (hH : zH D k a s g H locs) (hM : zV l y b n fr lo D k a As g post) (lk : zLkS own idx y b n none na) (rest : List Value) (hst : st = As.reverse ++ rest) (hna : As.length = na) (hls : ls.size = nL) (hw : (rest.map fun v => v.category).sum ≤ 8) (hR : fr + 1 ≤ R.frames ∧ 8 + (n + 11) + lo ≤ R.locals) (hcs : cells ≤ R.cells ∧ slots ≤ R.slots) (hdg : decode cc pc = .ok (.invokestatic idx, 3))
    (kk : ∀ (g' : Mem) (H1 : Heap) (locs1 : List Loc), post g' → zH D k a s g' H1 locs1 → W p l e R s m args below meth c H1 locs1 cells slots Q (F0 m (pc + 3) ls rest)) : W p l e R s m args below meth c H locs cells slots Q (F0 m pc ls st) :=
  va_callv (va_runS X.1 hM (z_cwS X lk hR) ⟨zPc.blind, z_pre X hH⟩ rfl hna hls hst (lv_room hw) hdg hcs) hH.2 (fun _ _ h => h) (fun _ h => h) (fun u t H1 locs1 ht hvm hw hB hz hk hS => kk u H1 locs1 hw ⟨by rw [← ht]; exact hB, hS⟩)
theorem z_callNi {post : Int32 → Mem → Prop} {host : String} (X : zC p m c cc nL s args own D k a) (hH : zH D k a s g H locs) (hM : zI l y b n ret fr lo D k a As g post) (lk : zLkN y b n (some ret) na) (hnw : va_Nw (.methodLinkNest own idx y host) s) (rest : List Value) (hst : st = As.reverse ++ rest) (hna : As.length = na) (hls : ls.size = nL) (hw : (rest.map fun v => v.category).sum ≤ 8) (hR : fr + 1 ≤ R.frames ∧ 8 + (n + 11) + lo ≤ R.locals) (hcs : cells ≤ R.cells ∧ slots ≤ R.slots) (hdg : decode cc pc = .ok (.invokestatic idx, 3))
    (kk : ∀ (r : Int32) (g' : Mem) (H1 : Heap) (locs1 : List Loc), post r g' → zH D k a s g' H1 locs1 → W p l e R s m args below meth c H1 locs1 cells slots Q (F0 m (pc + 3) ls (.int r :: rest))) : W p l e R s m args below meth c H locs cells slots Q (F0 m pc ls st) := by
  have hts := X.1.2.2.2.2
  obtain ⟨h2, h4, h5, h6⟩ := lk
  exact va_calli (va_runSN X.1 hM ⟨va_cnB na hts (zGood (y := y) (b := b) (n := n) (r := some ret) h5) rfl rfl rfl hnw (hts _ h4) h6 hR, hts _ h2, trivial⟩ ⟨zPc.blind, z_pre X hH⟩ rfl hna hls hst (lv_room hw) hdg hcs) hH.2 (fun _ _ h => h) (fun _ h => h) (fun r u t H1 locs1 ht hvm hw hB hz hk hS => kk r u H1 locs1 hw ⟨by rw [← ht]; exact hB, hS⟩)
theorem z_min (X : zC p m c cc nL s args own D k a) (hl : .methodLink own idx Lib.Math.min.name ∈ GW) (hls : ls.size = nL) (hfr : 1 ≤ R.frames) (hlo : (rest.map fun v => v.category).sum + 13 ≤ R.locals) (hcs : cells ≤ R.cells ∧ slots ≤ R.slots) {x z : Int32} (hdg : decode cc pc = .ok (.invokestatic idx, 3))
    (kk : W p l e R s m args below meth c H locs cells slots Q (F0 m (pc + 3) ls (.int (if z < x then z else x) :: rest))) : W p l e R s m args below meth c H locs cells slots Q (F0 m pc ls (.int z :: .int x :: rest)) := by
  obtain ⟨⟨hx, hb, hml, hown, hts⟩, -⟩ := X
  exact va_mmin hx hb (hml.trans hls.symm) hown (hts _ hl) (hts _ qm_static) (hts _ qm_init) (hts _ qm_code) hfr hlo hcs.1 hcs.2 hdg kk
theorem z_abs (X : zC p m c cc nL s args own D k a) (hl : .methodLink own idx Lib.Math.abs.name ∈ GW) (hls : ls.size = nL) (hfr : 1 ≤ R.frames) (hlo : (rest.map fun v => v.category).sum + 13 ≤ R.locals) (hcs : cells ≤ R.cells ∧ slots ≤ R.slots) {x : Int32} (hdg : decode cc pc = .ok (.invokestatic idx, 3))
    (kk : W p l e R s m args below meth c H locs cells slots Q (F0 m (pc + 3) ls (.int (if 0 ≤ x then x else 0 - x) :: rest))) : W p l e R s m args below meth c H locs cells slots Q (F0 m pc ls (.int x :: rest)) := by
  obtain ⟨⟨hx, hb, hml, hown, hts⟩, -⟩ := X
  exact va_mabs hx hb (hml.trans hls.symm) hown (hts _ hl) (hts _ qa_static) (hts _ qm_init) (hts _ qa_code) hfr hlo hcs.1 hcs.2 hdg kk
/-! receivers -/
theorem rv_X3 (X : zC p m c cc nL s args own D k a) (hH : zH D k a s g H locs) {i : Nat} (hi : i < 6) : ∃ cell : Cell, H[a i 0]? = some cell ∧ cell.vm.isStatics = false ∧ s.vm.findClass RX3 = some cell.cls := z_recv X hH (by omega) (by omega) (zE_state hi) rfl
theorem rv_X4 (X : zC p m c cc nL s args own D k a) (hH : zH D k a s g H locs) {i t : Nat} (hi : i < 6) (ht : t < 4) : ∃ cell : Cell, H[a i (4 + t)]? = some cell ∧ cell.vm.isStatics = false ∧ s.vm.findClass RX4 = some cell.cls := z_recv X hH (by omega) (by omega) (zE_table hi ht) rfl
theorem rv_X1 (X : zC p m c cc nL s args own D k a) (hH : zH D k a s g H locs) {i t : Nat} (hi : i < 6) (ht : t < 12) : ∃ cell : Cell, H[a i (8 + t)]? = some cell ∧ cell.vm.isStatics = false ∧ s.vm.findClass RX1 = some cell.cls := z_recv X hH (by omega) (by omega) (zE_plan hi) rfl
theorem rv_X5 (X : zC p m c cc nL s args own D k a) (hH : zH D k a s g H locs) : ∃ cell : Cell, H[a 6 0]? = some cell ∧ cell.vm.isStatics = false ∧ s.vm.findClass RX5 = some cell.cls := z_recv X hH (by omega) (by omega) zE_m rfl
theorem rv_X0 (X : zC p m c cc nL s args own D k a) (hH : zH D k a s g H locs) : ∃ cell : Cell, H[a 6 1]? = some cell ∧ cell.vm.isStatics = false ∧ s.vm.findClass RX0 = some cell.cls := z_recv X hH (by omega) (by omega) zE_m rfl
theorem rv_X2 (X : zC p m c cc nL s args own D k a) (hH : zH D k a s g H locs) : ∃ cell : Cell, H[a 6 3]? = some cell ∧ cell.vm.isStatics = false ∧ s.vm.findClass RX2 = some cell.cls := z_recv X hH (by omega) (by omega) zE_m rfl
theorem rv_X6 (X : zC p m c cc nL s args own D k a) (hH : zH D k a s g H locs) : ∃ cell : Cell, H[a 6 8]? = some cell ∧ cell.vm.isStatics = false ∧ s.vm.findClass RX6 = some cell.cls := z_recv X hH (by omega) (by omega) zE_m rfl
/-! rows of the memory -/
theorem ar_tabs (X : zC p m c cc nL s args own D k a) (hH : zH D k a s g H locs) {i : Nat} (hi : i < 6) (j : Nat) (hj : j < 4) (hdg : decode cc pc = .ok (.aaload, 1)) (kk : W p l e R s m args below meth c H locs cells slots Q (F0 m (pc + 1) ls (.ref (a i (4 + j)) :: rest))) : W p l e R s m args below meth c H locs cells slots Q (F0 m pc ls (.int (nI j) :: .ref (a i 1) :: rest)) :=
  z_aald X hH (by omega) (by omega) (zE_tabs hi) (t0 := 2) rfl (by omega) j hj rfl hdg kk
theorem ar_plans (X : zC p m c cc nL s args own D k a) (hH : zH D k a s g H locs) {i : Nat} (hi : i < 6) (j : Nat) (hj : j < 12) (hdg : decode cc pc = .ok (.aaload, 1)) (kk : W p l e R s m args below meth c H locs cells slots Q (F0 m (pc + 1) ls (.ref (a i (8 + j)) :: rest))) : W p l e R s m args below meth c H locs cells slots Q (F0 m pc ls (.int (nI j) :: .ref (a i 2) :: rest)) :=
  z_aald X hH (by omega) (by omega) (zE_plans hi) (t0 := 3) rfl (by omega) j hj rfl hdg kk
theorem ar_states (X : zC p m c cc nL s args own D k a) (hH : zH D k a s g H locs) (j : Nat) (hj : j < 4) (hdg : decode cc pc = .ok (.aaload, 1)) (kk : W p l e R s m args below meth c H locs cells slots Q (F0 m (pc + 1) ls (.ref (a (2 + j) 0) :: rest))) : W p l e R s m args below meth c H locs cells slots Q (F0 m pc ls (.int (nI j) :: .ref (a 6 2) :: rest)) :=
  z_aald (i := 6) (q := 2) X hH (by omega) (by omega) zE_m (t0 := 4) rfl (by omega) j hj rfl hdg kk
theorem ar_sets (X : zC p m c cc nL s args own D k a) (hH : zH D k a s g H locs) {i : Nat} (hi : i < 6) (j : Nat) (hj : j < 5) (hdg : decode cc pc = .ok (.iaload, 1)) (kk : W p l e R s m args below meth c H locs cells slots Q (F0 m (pc + 1) ls (.int (g i (8 + j)) :: rest))) : W p l e R s m args below meth c H locs cells slots Q (F0 m pc ls (.int (nI j) :: .ref (a i 3) :: rest)) :=
  z_iald X hH (by omega) (by omega) (zE_sets hi) (by omega) j hj hdg (by rw [if_pos hj]; exact kk)
theorem ar_signs (X : zC p m c cc nL s args own D k a) (hH : zH D k a s g H locs) (j : Nat) (hj : j < 80) (hdg : decode cc pc = .ok (.caload, 1)) (kk : W p l e R s m args below meth c H locs cells slots Q (F0 m (pc + 1) ls (.int (g 7 j) :: rest))) : W p l e R s m args below meth c H locs cells slots Q (F0 m pc ls (.int (nI j) :: .ref (a 6 4) :: rest)) :=
  z_cald (i := 6) (q := 4) X hH (by omega) (by omega) zE_m (by omega) j hj hdg kk
theorem ar_text (X : zC p m c cc nL s args own D k a) (hH : zH D k a s g H locs) (j : Nat) (hj : j < 80) (hdg : decode cc pc = .ok (.caload, 1)) (kk : W p l e R s m args below meth c H locs cells slots Q (F0 m (pc + 1) ls (.int (g 19 j) :: rest))) : W p l e R s m args below meth c H locs cells slots Q (F0 m pc ls (.int (nI j) :: .ref (a 6 10) :: rest)) :=
  z_cald (i := 6) (q := 10) X hH (by omega) (by omega) zE_m (by omega) j hj hdg kk
theorem ar_words (X : zC p m c cc nL s args own D k a) (hH : zH D k a s g H locs) (j : Nat) (hj : j < 11) (hdg : decode cc pc = .ok (.iaload, 1)) (kk : W p l e R s m args below meth c H locs cells slots Q (F0 m (pc + 1) ls (.int (g 8 j) :: rest))) : W p l e R s m args below meth c H locs cells slots Q (F0 m pc ls (.int (nI j) :: .ref (a 6 5) :: rest)) :=
  z_iald (i := 6) (q := 5) X hH (by omega) (by omega) zE_m (by omega) j hj hdg kk
theorem ar_tables (X : zC p m c cc nL s args own D k a) (hH : zH D k a s g H locs) (j : Nat) (hj : j < 11) (hdg : decode cc pc = .ok (.iaload, 1)) (kk : W p l e R s m args below meth c H locs cells slots Q (F0 m (pc + 1) ls (.int (g 9 j) :: rest))) : W p l e R s m args below meth c H locs cells slots Q (F0 m pc ls (.int (nI j) :: .ref (a 6 6) :: rest)) :=
  z_iald (i := 6) (q := 6) X hH (by omega) (by omega) zE_m (by omega) j hj hdg kk
theorem ar_numbers (X : zC p m c cc nL s args own D k a) (hH : zH D k a s g H locs) (j : Nat) (hj : j < 11) (hdg : decode cc pc = .ok (.iaload, 1)) (kk : W p l e R s m args below meth c H locs cells slots Q (F0 m (pc + 1) ls (.int (g 17 j) :: rest))) : W p l e R s m args below meth c H locs cells slots Q (F0 m pc ls (.int (nI j) :: .ref (a 6 7) :: rest)) :=
  z_iald (i := 6) (q := 7) X hH (by omega) (by omega) zE_m (by omega) j hj hdg kk
theorem ar_s (X : zC p m c cc nL s args own D k a) (hH : zH D k a s g H locs) {z : Nat} (B j : Nat) (hB : B < 7) (hj : j < 160) (hz : z = 160 * B + j) (hdg : decode cc pc = .ok (.iaload, 1)) (kk : W p l e R s m args below meth c H locs cells slots Q (F0 m (pc + 1) ls (.int (g (10 + B) j) :: rest))) : W p l e R s m args below meth c H locs cells slots Q (F0 m pc ls (.int (nI z) :: .ref (a 6 9) :: rest)) := by
  subst hz
  refine z_iald (i := 6) (q := 9) X hH (by omega) (by omega) zE_m (by omega) (160 * B + j) (by omega) hdg ?_
  rw [if_pos (by omega), show (160 * B + j) / 160 = B by omega, show (160 * B + j) % 160 = j by omega]
  exact kk
theorem zMi_ne {g' : Mem} {q : Nat} (hq : q ≠ 9) (h6 : g' 6 = g 6) (h18 : g' 18 = g 18) (h7 : q ≠ 4 → g' 7 = g 7) (h8 : q ≠ 5 → g' 8 = g 8) (h9 : q ≠ 6 → g' 9 = g 9) (h17 : q ≠ 7 → g' 17 = g 17) (h19 : q ≠ 10 → g' 19 = g 19) (hs : ∀ j, 10 ≤ j → j < 17 → g' j = g j) : ∀ r, r < 11 → r ≠ q → zMi k a g' r = zMi k a g r := by
  intro r hr hne
  rcases (show r = 0 ∨ r = 1 ∨ r = 2 ∨ r = 3 ∨ r = 4 ∨ r = 5 ∨ r = 6 ∨ r = 7 ∨ r = 8 ∨ r = 9 ∨ r = 10 by omega) with rfl | rfl | rfl | rfl | rfl | rfl | rfl | rfl | rfl | rfl | rfl
  · simp [zMi, h6]
  · simp [zMi, h6]
  · simp [zMi]
  · simp [zMi, h6]
  · simp [zMi, h7 (Ne.symm hne)]
  · simp [zMi, h8 (Ne.symm hne)]
  · simp [zMi, h9 (Ne.symm hne)]
  · simp [zMi, h17 (Ne.symm hne)]
  · simp [zMi, h18]
  · exact zMi_9 hs
  · simp [zMi, h19 (Ne.symm hne)]
theorem as_sets (X : zC p m c cc nL s args own D k a) (hH : zH D k a s g H locs) {i : Nat} (hi : i < 6) (j : Nat) (hj : j < 5) {x : Int32} (hdg : decode cc pc = .ok (.iastore, 1)) (kk : ∀ (H1 : Heap) (locs1 : List Loc), zH D k a s (zUp g i (upd (g i) (8 + j) x)) H1 locs1 → W p l e R s m args below meth c H1 locs1 cells slots Q (F0 m (pc + 1) ls rest)) : W p l e R s m args below meth c H locs cells slots Q (F0 m pc ls (.int x :: .int (nI j) :: .ref (a i 3) :: rest)) := by
  refine z_iast X hH (by omega) (by omega) (zE_sets hi) (by omega) j hj (zUp g i (upd (g i) (8 + j) x)) ?_ (z_ho hi (zo_3 (by omega) (by omega))) hdg kk
  rw [zE_sets hi, zUp_s]
  congr 3
  congr 1
  funext r
  by_cases h1 : r = j
  · subst h1
    simp [upd, hj]
  · have h2 : ¬ 8 + r = 8 + j := by omega
    simp only [upd, h1, h2, if_false]
theorem as_signs (X : zC p m c cc nL s args own D k a) (hH : zH D k a s g H locs) (j : Nat) (hj : j < 80) {x : Int32} (hx : vp_nar .char x = x) (hdg : decode cc pc = .ok (.castore, 1)) (kk : ∀ (H1 : Heap) (locs1 : List Loc), zH D k a s (zUp g 7 (upd (g 7) j x)) H1 locs1 → W p l e R s m args below meth c H1 locs1 cells slots Q (F0 m (pc + 1) ls rest)) : W p l e R s m args below meth c H locs cells slots Q (F0 m pc ls (.int x :: .int (nI j) :: .ref (a 6 4) :: rest)) := by
  refine z_cast (i := 6) (q := 4) X hH (by omega) (by omega) zE_m (by omega) j hj hx (zUp g 7 (upd (g 7) j x)) ?_ (zE_mi (fun r hr => zUp_n g _ (by omega)) (zMi_ne (by omega) (zUp_n g _ (by omega)) (zUp_n g _ (by omega)) (fun h => by first | exact absurd rfl h | exact zUp_n g _ (by omega)) (fun h => by first | exact absurd rfl h | exact zUp_n g _ (by omega)) (fun h => by first | exact absurd rfl h | exact zUp_n g _ (by omega)) (fun h => by first | exact absurd rfl h | exact zUp_n g _ (by omega)) (fun h => by first | exact absurd rfl h | exact zUp_n g _ (by omega)) (fun r h1 h2 => zUp_n g _ (by omega)))) hdg kk
  rw [zE_m]
  simp [zMi, zUp]
theorem as_text (X : zC p m c cc nL s args own D k a) (hH : zH D k a s g H locs) (j : Nat) (hj : j < 80) {x : Int32} (hx : vp_nar .char x = x) (hdg : decode cc pc = .ok (.castore, 1)) (kk : ∀ (H1 : Heap) (locs1 : List Loc), zH D k a s (zUp g 19 (upd (g 19) j x)) H1 locs1 → W p l e R s m args below meth c H1 locs1 cells slots Q (F0 m (pc + 1) ls rest)) : W p l e R s m args below meth c H locs cells slots Q (F0 m pc ls (.int x :: .int (nI j) :: .ref (a 6 10) :: rest)) := by
  refine z_cast (i := 6) (q := 10) X hH (by omega) (by omega) zE_m (by omega) j hj hx (zUp g 19 (upd (g 19) j x)) ?_ (zE_mi (fun r hr => zUp_n g _ (by omega)) (zMi_ne (by omega) (zUp_n g _ (by omega)) (zUp_n g _ (by omega)) (fun h => by first | exact absurd rfl h | exact zUp_n g _ (by omega)) (fun h => by first | exact absurd rfl h | exact zUp_n g _ (by omega)) (fun h => by first | exact absurd rfl h | exact zUp_n g _ (by omega)) (fun h => by first | exact absurd rfl h | exact zUp_n g _ (by omega)) (fun h => by first | exact absurd rfl h | exact zUp_n g _ (by omega)) (fun r h1 h2 => zUp_n g _ (by omega)))) hdg kk
  rw [zE_m]
  simp [zMi, zUp]
theorem as_words (X : zC p m c cc nL s args own D k a) (hH : zH D k a s g H locs) (j : Nat) (hj : j < 11) {x : Int32} (hdg : decode cc pc = .ok (.iastore, 1)) (kk : ∀ (H1 : Heap) (locs1 : List Loc), zH D k a s (zUp g 8 (upd (g 8) j x)) H1 locs1 → W p l e R s m args below meth c H1 locs1 cells slots Q (F0 m (pc + 1) ls rest)) : W p l e R s m args below meth c H locs cells slots Q (F0 m pc ls (.int x :: .int (nI j) :: .ref (a 6 5) :: rest)) := by
  refine z_iast (i := 6) (q := 5) X hH (by omega) (by omega) zE_m (by omega) j hj (zUp g 8 (upd (g 8) j x)) ?_ (zE_mi (fun r hr => zUp_n g _ (by omega)) (zMi_ne (by omega) (zUp_n g _ (by omega)) (zUp_n g _ (by omega)) (fun h => by first | exact absurd rfl h | exact zUp_n g _ (by omega)) (fun h => by first | exact absurd rfl h | exact zUp_n g _ (by omega)) (fun h => by first | exact absurd rfl h | exact zUp_n g _ (by omega)) (fun h => by first | exact absurd rfl h | exact zUp_n g _ (by omega)) (fun h => by first | exact absurd rfl h | exact zUp_n g _ (by omega)) (fun r h1 h2 => zUp_n g _ (by omega)))) hdg kk
  rw [zE_m]
  simp [zMi, zUp]
theorem as_tables (X : zC p m c cc nL s args own D k a) (hH : zH D k a s g H locs) (j : Nat) (hj : j < 11) {x : Int32} (hdg : decode cc pc = .ok (.iastore, 1)) (kk : ∀ (H1 : Heap) (locs1 : List Loc), zH D k a s (zUp g 9 (upd (g 9) j x)) H1 locs1 → W p l e R s m args below meth c H1 locs1 cells slots Q (F0 m (pc + 1) ls rest)) : W p l e R s m args below meth c H locs cells slots Q (F0 m pc ls (.int x :: .int (nI j) :: .ref (a 6 6) :: rest)) := by
  refine z_iast (i := 6) (q := 6) X hH (by omega) (by omega) zE_m (by omega) j hj (zUp g 9 (upd (g 9) j x)) ?_ (zE_mi (fun r hr => zUp_n g _ (by omega)) (zMi_ne (by omega) (zUp_n g _ (by omega)) (zUp_n g _ (by omega)) (fun h => by first | exact absurd rfl h | exact zUp_n g _ (by omega)) (fun h => by first | exact absurd rfl h | exact zUp_n g _ (by omega)) (fun h => by first | exact absurd rfl h | exact zUp_n g _ (by omega)) (fun h => by first | exact absurd rfl h | exact zUp_n g _ (by omega)) (fun h => by first | exact absurd rfl h | exact zUp_n g _ (by omega)) (fun r h1 h2 => zUp_n g _ (by omega)))) hdg kk
  rw [zE_m]
  simp [zMi, zUp]
theorem as_numbers (X : zC p m c cc nL s args own D k a) (hH : zH D k a s g H locs) (j : Nat) (hj : j < 11) {x : Int32} (hdg : decode cc pc = .ok (.iastore, 1)) (kk : ∀ (H1 : Heap) (locs1 : List Loc), zH D k a s (zUp g 17 (upd (g 17) j x)) H1 locs1 → W p l e R s m args below meth c H1 locs1 cells slots Q (F0 m (pc + 1) ls rest)) : W p l e R s m args below meth c H locs cells slots Q (F0 m pc ls (.int x :: .int (nI j) :: .ref (a 6 7) :: rest)) := by
  refine z_iast (i := 6) (q := 7) X hH (by omega) (by omega) zE_m (by omega) j hj (zUp g 17 (upd (g 17) j x)) ?_ (zE_mi (fun r hr => zUp_n g _ (by omega)) (zMi_ne (by omega) (zUp_n g _ (by omega)) (zUp_n g _ (by omega)) (fun h => by first | exact absurd rfl h | exact zUp_n g _ (by omega)) (fun h => by first | exact absurd rfl h | exact zUp_n g _ (by omega)) (fun h => by first | exact absurd rfl h | exact zUp_n g _ (by omega)) (fun h => by first | exact absurd rfl h | exact zUp_n g _ (by omega)) (fun h => by first | exact absurd rfl h | exact zUp_n g _ (by omega)) (fun r h1 h2 => zUp_n g _ (by omega)))) hdg kk
  rw [zE_m]
  simp [zMi, zUp]
theorem as_s (X : zC p m c cc nL s args own D k a) (hH : zH D k a s g H locs) {z : Nat} (B j : Nat) (hB : B < 7) (hj : j < 160) (hz : z = 160 * B + j) {x : Int32} (hdg : decode cc pc = .ok (.iastore, 1)) (kk : ∀ (H1 : Heap) (locs1 : List Loc), zH D k a s (zUp g (10 + B) (upd (g (10 + B)) j x)) H1 locs1 → W p l e R s m args below meth c H1 locs1 cells slots Q (F0 m (pc + 1) ls rest)) : W p l e R s m args below meth c H locs cells slots Q (F0 m pc ls (.int x :: .int (nI z) :: .ref (a 6 9) :: rest)) := by
  subst hz
  refine z_iast (i := 6) (q := 9) X hH (by omega) (by omega) zE_m (by omega) (160 * B + j) (by omega) (zUp g (10 + B) (upd (g (10 + B)) j x)) ?_ (zE_mi (fun r hr => zUp_n g _ (by omega)) ?_) hdg kk
  · rw [zE_m]
    show (.inl (k 1, 1120, .inl (fun j' => if j' < 1120 then (zUp g (10 + B) (upd (g (10 + B)) j x)) (10 + j' / 160) (j' % 160) else 0)) : va_E) = .inl (k 1, 1120, .inl (upd (fun j' => if j' < 1120 then g (10 + j' / 160) (j' % 160) else 0) (160 * B + j) x))
    congr 3
    congr 1
    funext r
    by_cases h1 : r = 160 * B + j
    · subst h1
      rw [if_pos (by omega), show (160 * B + j) / 160 = B by omega, show (160 * B + j) % 160 = j by omega, zUp_s, zu_s, zu_s]
    · rw [zu_n _ _ h1]
      by_cases h2 : r < 1120
      · rw [if_pos h2, if_pos h2]
        by_cases h3 : r / 160 = B
        · rw [h3, zUp_s, zu_n _ _ (by omega)]
        · rw [zUp_n g _ (by omega)]
      · rw [if_neg h2, if_neg h2]
  · intro r hr hne
    rcases (show r = 0 ∨ r = 1 ∨ r = 2 ∨ r = 3 ∨ r = 4 ∨ r = 5 ∨ r = 6 ∨ r = 7 ∨ r = 8 ∨ r = 9 ∨ r = 10 by omega) with rfl | rfl | rfl | rfl | rfl | rfl | rfl | rfl | rfl | rfl | rfl
    all_goals first | exact absurd rfl hne | simp [zMi, zUp_n g (i := 10 + B) (j := 6) _ (by omega), zUp_n g (i := 10 + B) (j := 7) _ (by omega), zUp_n g (i := 10 + B) (j := 8) _ (by omega), zUp_n g (i := 10 + B) (j := 9) _ (by omega), zUp_n g (i := 10 + B) (j := 17) _ (by omega), zUp_n g (i := 10 + B) (j := 18) _ (by omega), zUp_n g (i := 10 + B) (j := 19) _ (by omega)]
/-! counting in Nat -/
theorem n_iadd (hx : p.tables.exec = Jvm.exec) (hb : c.code = cc) {A B : Nat} (C : Nat) (h : A + B = C) (hdg : decode cc pc = .ok (.iadd, 1)) (kk : W p l e R s m args below meth c H locs cells slots Q (F0 m (pc + 1) ls (.int (nI C) :: rest))) : W p l e R s m args below meth c H locs cells slots Q (F0 m pc ls (.int (nI B) :: .int (nI A) :: rest)) :=
  lv_iadd hx hb hdg (by rw [nI_add, h]; exact kk)
theorem n_imul (hx : p.tables.exec = Jvm.exec) (hb : c.code = cc) {A B : Nat} (C : Nat) (h : A * B = C) (hdg : decode cc pc = .ok (.imul, 1)) (kk : W p l e R s m args below meth c H locs cells slots Q (F0 m (pc + 1) ls (.int (nI C) :: rest))) : W p l e R s m args below meth c H locs cells slots Q (F0 m pc ls (.int (nI B) :: .int (nI A) :: rest)) :=
  lv_imul hx hb hdg (by rw [pk_mul, h]; exact kk)
theorem n_isub (hx : p.tables.exec = Jvm.exec) (hb : c.code = cc) {A B : Nat} (C : Nat) (h : C + B = A) (hdg : decode cc pc = .ok (.isub, 1)) (kk : W p l e R s m args below meth c H locs cells slots Q (F0 m (pc + 1) ls (.int (nI C) :: rest))) : W p l e R s m args below meth c H locs cells slots Q (F0 m pc ls (.int (nI B) :: .int (nI A) :: rest)) :=
  lv_isub hx hb hdg (by rw [pk_sub (by omega), show A - B = C by omega]; exact kk)
theorem n_idiv (hx : p.tables.exec = Jvm.exec) (hb : c.code = cc) {A B : Nat} (C : Nat) (h : A / B = C) (hA : A < 2 ^ 31) (h0 : 0 < B) (hB : B < 2 ^ 31) (hdg : decode cc pc = .ok (.idiv, 1)) (kk : W p l e R s m args below meth c H locs cells slots Q (F0 m (pc + 1) ls (.int (nI C) :: rest))) : W p l e R s m args below meth c H locs cells slots Q (F0 m pc ls (.int (nI B) :: .int (nI A) :: rest)) :=
  lv_idiv hx hb hdg (nI_ne0 h0 hB) (by rw [pk_div hA h0 hB, h]; exact kk)
theorem n_irem (hx : p.tables.exec = Jvm.exec) (hb : c.code = cc) {A B : Nat} (C : Nat) (h : A % B = C) (hA : A < 2 ^ 31) (h0 : 0 < B) (hB : B < 2 ^ 31) (hdg : decode cc pc = .ok (.irem, 1)) (kk : W p l e R s m args below meth c H locs cells slots Q (F0 m (pc + 1) ls (.int (nI C) :: rest))) : W p l e R s m args below meth c H locs cells slots Q (F0 m pc ls (.int (nI B) :: .int (nI A) :: rest)) :=
  lv_irem hx hb hdg (nI_ne0 h0 hB) (by rw [pk_rem hA h0 hB, h]; exact kk)
theorem n_icmp_eq (hx : p.tables.exec = Jvm.exec) (hb : c.code = cc) {A B : Nat} (hA : A < 2 ^ 31) (hB : B < 2 ^ 31) {off : Int} {tgt : Nat} (hdg : decode cc pc = .ok (.if_icmp .eq off, 3)) (ht : (pc : Int) + off = (tgt : Int)) (kt : A = B → W p l e R s m args below meth c H locs cells slots Q (F0 m tgt ls rest)) (kf : A ≠ B → W p l e R s m args below meth c H locs cells slots Q (F0 m (pc + 3) ls rest)) : W p l e R s m args below meth c H locs cells slots Q (F0 m pc ls (.int (nI B) :: .int (nI A) :: rest)) :=
  lv_icmp_eq hx hb hdg ht (fun h => kt ((nI_eq hA hB).mp h)) (fun h => kf (fun q => h ((nI_eq hA hB).mpr q)))
theorem n_icmp_ne (hx : p.tables.exec = Jvm.exec) (hb : c.code = cc) {A B : Nat} (hA : A < 2 ^ 31) (hB : B < 2 ^ 31) {off : Int} {tgt : Nat} (hdg : decode cc pc = .ok (.if_icmp .ne off, 3)) (ht : (pc : Int) + off = (tgt : Int)) (kt : A ≠ B → W p l e R s m args below meth c H locs cells slots Q (F0 m tgt ls rest)) (kf : A = B → W p l e R s m args below meth c H locs cells slots Q (F0 m (pc + 3) ls rest)) : W p l e R s m args below meth c H locs cells slots Q (F0 m pc ls (.int (nI B) :: .int (nI A) :: rest)) :=
  lv_icmp_ne hx hb hdg ht (fun h => kt (fun q => h ((nI_eq hA hB).mpr q))) (fun h => kf ((nI_eq hA hB).mp h))
theorem n_icmp_lt (hx : p.tables.exec = Jvm.exec) (hb : c.code = cc) {A B : Nat} (hA : A < 2 ^ 31) (hB : B < 2 ^ 31) {off : Int} {tgt : Nat} (hdg : decode cc pc = .ok (.if_icmp .lt off, 3)) (ht : (pc : Int) + off = (tgt : Int)) (kt : A < B → W p l e R s m args below meth c H locs cells slots Q (F0 m tgt ls rest)) (kf : B ≤ A → W p l e R s m args below meth c H locs cells slots Q (F0 m (pc + 3) ls rest)) : W p l e R s m args below meth c H locs cells slots Q (F0 m pc ls (.int (nI B) :: .int (nI A) :: rest)) :=
  lv_icmp_lt hx hb hdg ht (fun h => kt ((nI_ltI hA hB).mp h)) (fun h => kf (Nat.not_lt.mp (fun q => h ((nI_ltI hA hB).mpr q))))
theorem n_icmp_ge (hx : p.tables.exec = Jvm.exec) (hb : c.code = cc) {A B : Nat} (hA : A < 2 ^ 31) (hB : B < 2 ^ 31) {off : Int} {tgt : Nat} (hdg : decode cc pc = .ok (.if_icmp .ge off, 3)) (ht : (pc : Int) + off = (tgt : Int)) (kt : B ≤ A → W p l e R s m args below meth c H locs cells slots Q (F0 m tgt ls rest)) (kf : A < B → W p l e R s m args below meth c H locs cells slots Q (F0 m (pc + 3) ls rest)) : W p l e R s m args below meth c H locs cells slots Q (F0 m pc ls (.int (nI B) :: .int (nI A) :: rest)) :=
  lv_icmp_ge hx hb hdg ht (fun h => kt ((nI_leI hB hA).mp h)) (fun h => kf (Nat.not_le.mp (fun q => h ((nI_leI hB hA).mpr q))))
theorem n_icmp_gt (hx : p.tables.exec = Jvm.exec) (hb : c.code = cc) {A B : Nat} (hA : A < 2 ^ 31) (hB : B < 2 ^ 31) {off : Int} {tgt : Nat} (hdg : decode cc pc = .ok (.if_icmp .gt off, 3)) (ht : (pc : Int) + off = (tgt : Int)) (kt : B < A → W p l e R s m args below meth c H locs cells slots Q (F0 m tgt ls rest)) (kf : A ≤ B → W p l e R s m args below meth c H locs cells slots Q (F0 m (pc + 3) ls rest)) : W p l e R s m args below meth c H locs cells slots Q (F0 m pc ls (.int (nI B) :: .int (nI A) :: rest)) :=
  lv_icmp_gt hx hb hdg ht (fun h => kt ((nI_ltI hB hA).mp h)) (fun h => kf (Nat.not_lt.mp (fun q => h ((nI_ltI hB hA).mpr q))))
theorem n_icmp_le (hx : p.tables.exec = Jvm.exec) (hb : c.code = cc) {A B : Nat} (hA : A < 2 ^ 31) (hB : B < 2 ^ 31) {off : Int} {tgt : Nat} (hdg : decode cc pc = .ok (.if_icmp .le off, 3)) (ht : (pc : Int) + off = (tgt : Int)) (kt : A ≤ B → W p l e R s m args below meth c H locs cells slots Q (F0 m tgt ls rest)) (kf : B < A → W p l e R s m args below meth c H locs cells slots Q (F0 m (pc + 3) ls rest)) : W p l e R s m args below meth c H locs cells slots Q (F0 m pc ls (.int (nI B) :: .int (nI A) :: rest)) :=
  lv_icmp_le hx hb hdg ht (fun h => kt ((nI_leI hA hB).mp h)) (fun h => kf (Nat.not_le.mp (fun q => h ((nI_leI hA hB).mpr q))))
end ZC

theorem k_J0_492 : zLkV RJ0 492 yJ0_isLatin1_aae02 cJ0_isLatin1_aae02 1 (some .boolean) 0 := ⟨q_404, q_405, q_406, q_9, q_407, by decide +kernel⟩
theorem k_J0_495 : zLkS RJ0 495 yJ1_charAt_3b067 cJ1_charAt_3b067 2 (some .char) 2 := ⟨q_408, q_409, q_10, q_410, by decide +kernel⟩
theorem k_J0_1059 : zLkS RJ0 1059 yJ3_checkIndex_8e157 cJ3_checkIndex_8e157 3 (some .int) 3 := ⟨q_416, q_417, q_11, q_418, by decide +kernel⟩
theorem k_J0_335 : zLkV RJ0 335 yJ0_coder_7d493 cJ0_coder_7d493 1 (some .byte) 0 := ⟨q_394, q_395, q_396, q_9, q_397, by decide +kernel⟩
theorem k_J1_9 : zLkS RJ1 9 yJ0_checkIndex_df160 cJ0_checkIndex_df160 2 none 2 := ⟨q_411, q_412, q_9, q_413, by decide +kernel⟩
theorem k_L_13 : zLkV RL 13 yX5_table cX5_table 5 (some .int) 3 := ⟨q_231, q_232, q_233, q_1, q_234, by decide +kernel⟩
theorem k_L_17 : zLkV RL 17 yX6_table cX6_table 6 (some .int) 3 := ⟨q_613, q_614, q_615, q_7, q_616, by decide +kernel⟩
theorem k_L_18 : zLkV RL 18 yX5_ask cX5_ask 3 (some .int) 2 := ⟨q_261, q_262, q_263, q_1, q_264, by decide +kernel⟩
theorem k_L_22 : zLkV RL 22 yX6_ask cX6_ask 3 (some .int) 2 := ⟨q_628, q_629, q_630, q_7, q_631, by decide +kernel⟩
theorem k_L_23 : zLkV RL 23 yX5_askAll cX5_askAll 5 (some .int) 0 := ⟨q_361, q_362, q_363, q_1, q_364, by decide +kernel⟩
theorem k_L_27 : zLkV RL 27 yX6_askAll cX6_askAll 2 (some .int) 0 := ⟨q_693, q_694, q_695, q_7, q_696, by decide +kernel⟩
theorem k_L_28 : zLkV RL 28 yX5_pin cX5_pin 3 (some .int) 2 := ⟨q_453, q_454, q_455, q_1, q_456, by decide +kernel⟩
theorem k_L_32 : zLkV RL 32 yX6_pin cX6_pin 4 (some .int) 2 := ⟨q_725, q_726, q_727, q_7, q_728, by decide +kernel⟩
theorem k_L_33 : zLkV RL 33 yX5_throwOut cX5_throwOut 2 (some .int) 1 := ⟨q_462, q_463, q_464, q_1, q_465, by decide +kernel⟩
theorem k_L_37 : zLkV RL 37 yX6_throwOut cX6_throwOut 2 (some .int) 1 := ⟨q_737, q_738, q_739, q_7, q_740, by decide +kernel⟩
theorem k_L_38 : zLkV RL 38 yX5_make cX5_make 6 (some .int) 5 := ⟨q_467, q_468, q_469, q_1, q_470, by decide +kernel⟩
theorem k_L_42 : zLkV RL 42 yX6_make cX6_make 7 (some .int) 5 := ⟨q_741, q_742, q_743, q_7, q_744, by decide +kernel⟩
theorem k_L_43 : zLkV RL 43 yX5_set cX5_set 4 (some .int) 2 := ⟨q_478, q_479, q_480, q_1, q_481, by decide +kernel⟩
theorem k_L_46 : zLkV RL 46 yX6_set cX6_set 4 (some .int) 2 := ⟨q_746, q_747, q_748, q_7, q_749, by decide +kernel⟩
theorem k_L_47 : zLkV RL 47 yX5_type cX5_type 2 (some .int) 1 := ⟨q_487, q_488, q_489, q_1, q_490, by decide +kernel⟩
theorem k_L_51 : zLkV RL 51 yX6_type cX6_type 2 (some .int) 1 := ⟨q_756, q_757, q_758, q_7, q_759, by decide +kernel⟩
theorem k_L_52 : zLkV RL 52 yX5_clearText cX5_clearText 2 (some .int) 0 := ⟨q_491, q_492, q_493, q_1, q_494, by decide +kernel⟩
theorem k_L_55 : zLkV RL 55 yX6_clearText cX6_clearText 2 (some .int) 0 := ⟨q_760, q_761, q_762, q_7, q_763, by decide +kernel⟩
theorem k_L_56 : zLkV RL 56 yX5_undo cX5_undo 1 (some .int) 0 := ⟨q_495, q_496, q_497, q_1, q_498, by decide +kernel⟩
theorem k_L_59 : zLkV RL 59 yX6_undo cX6_undo 1 (some .int) 0 := ⟨q_764, q_765, q_766, q_7, q_767, by decide +kernel⟩
theorem k_L_60 : zLkV RL 60 yX5_keep cX5_keep 1 (some .int) 0 := ⟨q_503, q_504, q_505, q_1, q_506, by decide +kernel⟩
theorem k_L_63 : zLkV RL 63 yX6_keep cX6_keep 1 (some .int) 0 := ⟨q_768, q_769, q_770, q_7, q_771, by decide +kernel⟩
theorem k_L_64 : zLkV RL 64 yX5_restore cX5_restore 1 (some .int) 0 := ⟨q_508, q_509, q_510, q_1, q_511, by decide +kernel⟩
theorem k_L_67 : zLkV RL 67 yX6_restore cX6_restore 1 (some .int) 0 := ⟨q_772, q_773, q_774, q_7, q_775, by decide +kernel⟩
theorem k_L_68 : zLkV RL 68 yX5_cost cX5_cost 4 (some .int) 3 := ⟨q_512, q_513, q_514, q_1, q_515, by decide +kernel⟩
theorem k_L_72 : zLkV RL 72 yX6_cost cX6_cost 4 (some .int) 3 := ⟨q_776, q_777, q_778, q_7, q_779, by decide +kernel⟩
theorem k_L_73 : zLkV RL 73 yX5_cheapest cX5_cheapest 3 (some .int) 2 := ⟨q_517, q_518, q_519, q_1, q_520, by decide +kernel⟩
theorem k_L_76 : zLkV RL 76 yX6_cheapest cX6_cheapest 3 (some .int) 2 := ⟨q_780, q_781, q_782, q_7, q_783, by decide +kernel⟩
theorem k_L_77 : zLkV RL 77 yX5_plan cX5_plan 4 (some .int) 2 := ⟨q_522, q_523, q_524, q_1, q_525, by decide +kernel⟩
theorem k_L_80 : zLkV RL 80 yX6_plan cX6_plan 4 (some .int) 2 := ⟨q_784, q_785, q_786, q_7, q_787, by decide +kernel⟩
theorem k_L_81 : zLkV RL 81 yX5_reason cX5_reason 3 (some .int) 2 := ⟨q_530, q_531, q_532, q_1, q_533, by decide +kernel⟩
theorem k_L_84 : zLkV RL 84 yX6_reason cX6_reason 3 (some .int) 2 := ⟨q_788, q_789, q_790, q_7, q_791, by decide +kernel⟩
theorem k_L_85 : zLkV RL 85 yX5_ifAsked cX5_ifAsked 9 (some .int) 3 := ⟨q_535, q_536, q_537, q_1, q_538, by decide +kernel⟩
theorem k_L_88 : zLkV RL 88 yX6_ifAsked cX6_ifAsked 4 (some .int) 3 := ⟨q_792, q_793, q_794, q_7, q_795, by decide +kernel⟩
theorem k_L_89 : zLkV RL 89 yX5_reach cX5_reach 5 (some .int) 2 := ⟨q_544, q_545, q_546, q_1, q_547, by decide +kernel⟩
theorem k_L_92 : zLkV RL 92 yX6_reach cX6_reach 5 (some .int) 2 := ⟨q_800, q_801, q_802, q_7, q_803, by decide +kernel⟩
theorem k_L_93 : zLkV RL 93 yX5_oldest cX5_oldest 1 (some .int) 0 := ⟨q_548, q_549, q_550, q_1, q_551, by decide +kernel⟩
theorem k_L_96 : zLkV RL 96 yX6_oldest cX6_oldest 1 (some .int) 0 := ⟨q_804, q_805, q_806, q_7, q_807, by decide +kernel⟩
theorem k_L_97 : zLkV RL 97 yX5_tableOf cX5_tableOf 4 (some .int) 2 := ⟨q_553, q_554, q_555, q_1, q_556, by decide +kernel⟩
theorem k_L_100 : zLkV RL 100 yX6_tableOf cX6_tableOf 3 (some .int) 2 := ⟨q_808, q_809, q_810, q_7, q_811, by decide +kernel⟩
theorem k_L_101 : zLkV RL 101 yX5_count cX5_count 2 (some .int) 1 := ⟨q_561, q_562, q_563, q_1, q_564, by decide +kernel⟩
theorem k_L_104 : zLkV RL 104 yX6_count cX6_count 2 (some .int) 1 := ⟨q_816, q_817, q_818, q_7, q_819, by decide +kernel⟩
theorem k_X0_22 : zLkV RX0 22 yX3_copyFrom cX3_copyFrom 3 none 1 := ⟨q_242, q_243, q_244, q_2, q_245, by decide +kernel⟩
theorem k_X2_53 : zLkV RX2 53 yX2_sign cX2_sign 1 (some .int) 0 := ⟨q_377, q_378, q_379, q_6, q_380, by decide +kernel⟩
theorem k_X2_74 : zLkV RX2 74 yJ0_length_8abf5 cJ0_length_8abf5 1 (some .int) 0 := ⟨q_390, q_391, q_392, q_9, q_393, by decide +kernel⟩
theorem k_X2_78 : zLkV RX2 78 yJ0_charAt_5068e cJ0_charAt_5068e 2 (some .char) 1 := ⟨q_400, q_401, q_402, q_9, q_403, by decide +kernel⟩
theorem k_X2_32 : zLkV RX2 32 yX2_readLine cX2_readLine 5 (some .boolean) 1 := ⟨q_369, q_370, q_371, q_6, q_372, by decide +kernel⟩
theorem k_X2_41 : zLkV RX2 41 yX2_pass cX2_pass 3 (some .boolean) 1 := ⟨q_386, q_387, q_388, q_6, q_389, by decide +kernel⟩
theorem k_X2_45 : zLkV RX2 45 yX2_readWord cX2_readWord 1 (some .int) 0 := ⟨q_373, q_374, q_375, q_6, q_376, by decide +kernel⟩
theorem k_X2_49 : zLkV RX2 49 yX2_readNumber cX2_readNumber 5 (some .int) 2 := ⟨q_442, q_443, q_444, q_6, q_445, by decide +kernel⟩
theorem k_X2_71 : zLkV RX2 71 yX2_digit cX2_digit 2 (some .int) 0 := ⟨q_447, q_448, q_449, q_6, q_450, by decide +kernel⟩
theorem k_X2_56 : zLkV RX2 56 yX2_readKeyOrKeys cX2_readKeyOrKeys 1 (some .int) 0 := ⟨q_381, q_382, q_383, q_6, q_384, by decide +kernel⟩
theorem k_X3_116 : zLkV RX3 116 yX3_whyNotUsed cX3_whyNotUsed 4 (some .int) 2 := ⟨q_278, q_279, q_280, q_2, q_281, by decide +kernel⟩
theorem k_X3_119 : zLkV RX3 119 yX3_answerByPlan cX3_answerByPlan 5 (some .int) 2 := ⟨q_297, q_298, q_299, q_2, q_300, by decide +kernel⟩
theorem k_X3_122 : zLkV RX3 122 yX3_answerByLooking cX3_answerByLooking 5 (some .int) 2 := ⟨q_321, q_322, q_323, q_2, q_324, by decide +kernel⟩
theorem k_X3_64 : zLkV RX3 64 yX3_tableUnder cX3_tableUnder 2 (some (.object "KeptPlans$Table")) 1 := ⟨q_286, q_287, q_288, q_2, q_289, by decide +kernel⟩
theorem k_X3_140 : zLkV RX3 140 yX3_cheapestWay cX3_cheapestWay 7 (some .int) 2 := ⟨q_325, q_326, q_327, q_2, q_328, by decide +kernel⟩
theorem k_X3_143 : zLkV RX3 143 yX3_makeRoomFor cX3_makeRoomFor 2 none 1 := ⟨q_329, q_330, q_331, q_2, q_332, by decide +kernel⟩
theorem k_X3_147 : zLkV RX3 147 yX3_couldKeep cX3_couldKeep 2 (some .boolean) 1 := ⟨q_349, q_350, q_351, q_2, q_352, by decide +kernel⟩
theorem k_X3_82 : zLkN yX5_quotient cX5_quotient 2 (some .int) 2 := ⟨q_313, q_1, q_314, by decide +kernel⟩
theorem k_X3_150 : zLkV RX3 150 yX3_place cX3_place 7 none 5 := ⟨q_357, q_358, q_359, q_2, q_360, by decide +kernel⟩
theorem k_X3_85 : zLkV RX3 85 yX3_priceBy cX3_priceBy 7 (some .int) 3 := ⟨q_301, q_302, q_303, q_2, q_304, by decide +kernel⟩
theorem k_X3_136 : zLkV RX3 136 yX3_isTooDear cX3_isTooDear 3 (some .boolean) 2 := ⟨q_317, q_318, q_319, q_2, q_320, by decide +kernel⟩
theorem k_X3_29 : zLkV RX3 29 yX4_copyFrom cX4_copyFrom 2 none 1 := ⟨q_246, q_247, q_248, q_3, q_249, by decide +kernel⟩
theorem k_X3_33 : zLkV RX3 33 yX1_copyFrom cX1_copyFrom 2 none 1 := ⟨q_250, q_251, q_252, q_4, q_253, by decide +kernel⟩
theorem k_X3_160 : zLkV RX3 160 yX3_pinnedPlans cX3_pinnedPlans 3 (some .int) 0 := ⟨q_353, q_354, q_355, q_2, q_356, by decide +kernel⟩
theorem k_X3_164 : zLkV RX3 164 yX3_keptPlans cX3_keptPlans 3 (some .int) 0 := ⟨q_337, q_338, q_339, q_2, q_340, by decide +kernel⟩
theorem k_X3_170 : zLkV RX3 170 yX3_oldestUnpinned cX3_oldestUnpinned 6 (some .int) 0 := ⟨q_345, q_346, q_347, q_2, q_348, by decide +kernel⟩
theorem k_X3_167 : zLkV RX3 167 yX3_lacksRoomFor cX3_lacksRoomFor 2 (some .boolean) 1 := ⟨q_333, q_334, q_335, q_2, q_336, by decide +kernel⟩
theorem k_X3_96 : zLkV RX3 96 yX3_rowsChangedTooMuch cX3_rowsChangedTooMuch 3 (some .boolean) 1 := ⟨q_282, q_283, q_284, q_2, q_285, by decide +kernel⟩
theorem k_X3_100 : zLkV RX3 100 yX3_isTooOld cX3_isTooOld 2 (some .boolean) 1 := ⟨q_293, q_294, q_295, q_2, q_296, by decide +kernel⟩
theorem k_X3_173 : zLkV RX3 173 yX3_crowdOutDownTo cX3_crowdOutDownTo 5 none 1 := ⟨q_341, q_342, q_343, q_2, q_344, by decide +kernel⟩
theorem k_X3_68 : zLkN yX5_bitsOf cX5_bitsOf 2 (some .int) 1 := ⟨q_306, q_1, q_307, by decide +kernel⟩
theorem k_X3_72 : zLkV RX3 72 yX3_rowsMet cX3_rowsMet 5 (some .int) 2 := ⟨q_308, q_309, q_310, q_2, q_311, by decide +kernel⟩
theorem k_X3_176 : zLkV RX3 176 yX3_isStale cX3_isStale 2 (some .boolean) 1 := ⟨q_569, q_527, q_528, q_2, q_529, by decide +kernel⟩
theorem k_X5_62 : zLkS RX5 62 yX5_isShape cX5_isShape 1 (some .boolean) 1 := ⟨q_265, q_266, q_1, q_267, by decide +kernel⟩
theorem k_X5_65 : zLkS RX5 65 yX5_isNumberOf cX5_isNumberOf 2 (some .boolean) 2 := ⟨q_268, q_269, q_1, q_270, by decide +kernel⟩
theorem k_X5_54 : zLkV RX5 54 yX0_record cX0_record 2 none 1 := ⟨q_238, q_239, q_240, q_5, q_241, by decide +kernel⟩
theorem k_X5_69 : zLkV RX5 69 yX3_answer cX3_answer 6 (some .int) 2 := ⟨q_274, q_275, q_276, q_2, q_277, by decide +kernel⟩
theorem k_X5_73 : zLkV RX5 73 yX2_read cX2_read 1 (some .int) 0 := ⟨q_365, q_366, q_367, q_6, q_368, by decide +kernel⟩
theorem k_X5_58 : zLkV RX5 58 yX3_resize cX3_resize 4 none 3 := ⟨q_257, q_258, q_259, q_2, q_260, by decide +kernel⟩
theorem k_X5_157 : zLkV RX5 157 yX3_cheapestWay cX3_cheapestWay 7 (some .int) 2 := ⟨q_521, q_326, q_327, q_2, q_328, by decide +kernel⟩
theorem k_X5_110 : zLkS RX5 110 yX5_isWay cX5_isWay 1 (some .boolean) 1 := ⟨q_471, q_472, q_1, q_473, by decide +kernel⟩
theorem k_X5_153 : zLkV RX5 153 yX3_priceBy cX3_priceBy 7 (some .int) 3 := ⟨q_516, q_302, q_303, q_2, q_304, by decide +kernel⟩
theorem k_X5_107 : zLkV RX5 107 yX3_keptPlans cX3_keptPlans 3 (some .int) 0 := ⟨q_466, q_338, q_339, q_2, q_340, by decide +kernel⟩
theorem k_X5_101 : zLkV RX5 101 yX3_pinnedPlans cX3_pinnedPlans 3 (some .int) 0 := ⟨q_461, q_354, q_355, q_2, q_356, by decide +kernel⟩
theorem k_X5_214 : zLkV RX5 214 yX3_stalePlans cX3_stalePlans 3 (some .int) 0 := ⟨q_565, q_566, q_567, q_2, q_568, by decide +kernel⟩
theorem k_X5_191 : zLkV RX5 191 yX3_whyNotUsed cX3_whyNotUsed 4 (some .int) 2 := ⟨q_534, q_279, q_280, q_2, q_281, by decide +kernel⟩
theorem k_X5_194 : zLkV RX5 194 yX3_isTooDear cX3_isTooDear 3 (some .boolean) 2 := ⟨q_539, q_318, q_319, q_2, q_320, by decide +kernel⟩
theorem k_X5_197 : zLkV RX5 197 yX3_firstCrowdedOutBy cX3_firstCrowdedOutBy 2 (some .int) 1 := ⟨q_540, q_541, q_542, q_2, q_543, by decide +kernel⟩
theorem k_X5_201 : zLkS RX5 201 yX5_leastNumberOf cX5_leastNumberOf 1 (some .int) 1 := ⟨q_271, q_272, q_1, q_273, by decide +kernel⟩
theorem k_X5_150 : zLkV RX5 150 yX3_copyFrom cX3_copyFrom 3 none 1 := ⟨q_507, q_243, q_244, q_2, q_245, by decide +kernel⟩
theorem k_X5_114 : zLkV RX5 114 yX3_couldKeep cX3_couldKeep 2 (some .boolean) 1 := ⟨q_475, q_350, q_351, q_2, q_352, by decide +kernel⟩
theorem k_X5_117 : zLkV RX5 117 yX3_makeRoomFor cX3_makeRoomFor 2 none 1 := ⟨q_476, q_330, q_331, q_2, q_332, by decide +kernel⟩
theorem k_X5_121 : zLkV RX5 121 yX3_place cX3_place 7 none 5 := ⟨q_477, q_358, q_359, q_2, q_360, by decide +kernel⟩
theorem k_X5_204 : zLkV RX5 204 yX3_oldestUnpinned cX3_oldestUnpinned 6 (some .int) 0 := ⟨q_552, q_346, q_347, q_2, q_348, by decide +kernel⟩
theorem k_X5_89 : zLkV RX5 89 yX5_hasPlan cX5_hasPlan 2 (some .boolean) 1 := ⟨q_457, q_459, qs_0, q_1, q_460, by decide +kernel⟩
theorem k_X5_181 : zLkV RX5 181 yX3_isStale cX3_isStale 2 (some .boolean) 1 := ⟨q_526, q_527, q_528, q_2, q_529, by decide +kernel⟩
theorem k_X5_134 : zLkV RX5 134 yX3_crowdOutDownTo cX3_crowdOutDownTo 5 none 1 := ⟨q_486, q_342, q_343, q_2, q_344, by decide +kernel⟩
theorem k_X5_37 : zLkS RX5 37 yX5_isTable cX5_isTable 1 (some .boolean) 1 := ⟨q_235, q_236, q_1, q_237, by decide +kernel⟩
theorem k_X5_207 : zLkV RX5 207 yX3_keptPlansOf cX3_keptPlansOf 4 (some .int) 1 := ⟨q_557, q_558, q_559, q_2, q_560, by decide +kernel⟩
theorem k_X5_147 : zLkV RX5 147 yX0_takeBack cX0_takeBack 2 none 1 := ⟨q_499, q_500, q_501, q_5, q_502, by decide +kernel⟩
theorem k_X6_38 : zLkS RX6 38 yX6_planAt cX6_planAt 2 (some .int) 2 := ⟨q_642, q_643, q_7, q_644, by decide +kernel⟩
theorem k_X6_89 : zLkS RX6 89 yX6_isShape cX6_isShape 1 (some .boolean) 1 := ⟨q_632, q_633, q_7, q_634, by decide +kernel⟩
theorem k_X6_93 : zLkS RX6 93 yX6_isNumber cX6_isNumber 2 (some .boolean) 2 := ⟨q_635, q_636, q_7, q_637, by decide +kernel⟩
theorem k_X6_86 : zLkV RX6 86 yX6_records cX6_records 2 none 0 := ⟨q_620, q_622, qs_1, q_7, q_623, by decide +kernel⟩
theorem k_X6_96 : zLkV RX6 96 yX6_asks cX6_asks 7 (some .int) 3 := ⟨q_638, q_640, qs_3, q_7, q_641, by decide +kernel⟩
theorem k_X6_136 : zLkV RX6 136 yX6_goes cX6_goes 3 (some .int) 1 := ⟨q_697, q_699, qs_15, q_7, q_700, by decide +kernel⟩
theorem k_X6_65 : zLkV RX6 65 yX6_why cX6_why 5 (some .int) 3 := ⟨q_645, q_647, qs_4, q_7, q_648, by decide +kernel⟩
theorem k_X6_69 : zLkV RX6 69 yX6_cheapestOf cX6_cheapestOf 6 (some .int) 3 := ⟨q_661, q_663, qs_8, q_7, q_664, by decide +kernel⟩
theorem k_X6_34 : zLkV RX6 34 yX6_costs cX6_costs 10 (some .int) 4 := ⟨q_665, q_667, qs_9, q_7, q_668, by decide +kernel⟩
theorem k_X6_79 : zLkV RX6 79 yX6_hasRoom cX6_hasRoom 3 (some .boolean) 2 := ⟨q_673, q_675, qs_10, q_7, q_676, by decide +kernel⟩
theorem k_X6_82 : zLkV RX6 82 yX6_lays cX6_lays 8 none 6 := ⟨q_689, q_691, qs_14, q_7, q_692, by decide +kernel⟩
theorem k_X6_17 : zLkS RX6 17 yX6_in cX6_in 3 (some .boolean) 3 := ⟨q_617, q_618, q_7, q_619, by decide +kernel⟩
theorem k_X6_29 : zLkS RX6 29 yX6_bits cX6_bits 3 (some .int) 1 := ⟨q_669, q_670, q_7, q_671, by decide +kernel⟩
theorem k_X6_58 : zLkV RX6 58 yX6_kept cX6_kept 4 (some .int) 1 := ⟨q_677, q_679, qs_11, q_7, q_680, by decide +kernel⟩
theorem k_X6_143 : zLkV RX6 143 yX6_pinned cX6_pinned 3 (some .int) 0 := ⟨q_733, q_735, qs_23, q_7, q_736, by decide +kernel⟩
theorem k_X6_162 : zLkV RX6 162 yX6_stale cX6_stale 3 (some .int) 0 := ⟨q_820, q_822, qs_26, q_7, q_823, by decide +kernel⟩
theorem k_X6_129 : zLkV RX6 129 yX6_reads cX6_reads 1 (some .boolean) 0 := ⟨q_701, q_703, qs_16, q_7, q_704, by decide +kernel⟩
theorem k_X6_132 : zLkV RX6 132 yX6_does cX6_does 1 (some .int) 0 := ⟨q_721, q_723, qs_21, q_7, q_724, by decide +kernel⟩
theorem k_X6_109 : zLkV RX6 109 yX6_takes cX6_takes 3 (some .boolean) 1 := ⟨q_709, q_711, qs_18, q_7, q_712, by decide +kernel⟩
theorem k_X6_52 : zLkV RX6 52 yX6_oldestOf cX6_oldestOf 6 (some .int) 1 := ⟨q_681, q_683, qs_12, q_7, q_684, by decide +kernel⟩
theorem k_X6_61 : zLkV RX6 61 yX6_throwsOldest cX6_throwsOldest 3 none 1 := ⟨q_685, q_687, qs_13, q_7, q_688, by decide +kernel⟩
theorem k_X6_156 : zLkV RX6 156 yX6_wouldAsk cX6_wouldAsk 6 (some .int) 3 := ⟨q_796, q_798, qs_24, q_7, q_799, by decide +kernel⟩
theorem k_X6_42 : zLkV RX6 42 yX6_age cX6_age 3 (some .int) 2 := ⟨q_657, q_659, qs_7, q_7, q_660, by decide +kernel⟩
theorem k_X6_25 : zLkV RX6 25 yX6_copies cX6_copies 4 none 2 := ⟨q_624, q_626, qs_2, q_7, q_627, by decide +kernel⟩
theorem k_X6_140 : zLkV RX6 140 yX6_hasPlan cX6_hasPlan 2 (some .boolean) 1 := ⟨q_729, q_731, qs_22, q_7, q_732, by decide +kernel⟩
theorem k_X6_45 : zLkV RX6 45 yX6_isChanged cX6_isChanged 5 (some .boolean) 2 := ⟨q_649, q_651, qs_5, q_7, q_652, by decide +kernel⟩
theorem k_X6_49 : zLkV RX6 49 yX6_isOld cX6_isOld 3 (some .boolean) 2 := ⟨q_653, q_655, qs_6, q_7, q_656, by decide +kernel⟩
theorem k_X6_115 : zLkV RX6 115 yX6_word cX6_word 2 (some .boolean) 0 := ⟨q_705, q_707, qs_17, q_7, q_708, by decide +kernel⟩
theorem k_X6_119 : zLkV RX6 119 yX6_isDigit cX6_isDigit 3 (some .boolean) 2 := ⟨q_717, q_719, qs_20, q_7, q_720, by decide +kernel⟩
theorem k_X6_147 : zLkS RX6 147 yX6_lowest cX6_lowest 1 (some .int) 1 := ⟨q_750, q_751, q_7, q_752, by decide +kernel⟩
theorem k_X6_150 : zLkS RX6 150 yX6_highest cX6_highest 1 (some .int) 1 := ⟨q_753, q_754, q_7, q_755, by decide +kernel⟩
theorem k_X6_159 : zLkV RX6 159 yX6_keptFor cX6_keptFor 2 (some .int) 1 := ⟨q_812, q_814, qs_25, q_7, q_815, by decide +kernel⟩
theorem k_X6_105 : zLkV RX6 105 yX6_isAt cX6_isAt 2 (some .boolean) 1 := ⟨q_713, q_715, qs_19, q_7, q_716, by decide +kernel⟩
