/-! the script's cell: a contract that knows the script too -/
def zPx (D : va_G) (k : Nat → ClassId) (a : Nat → Nat → Nat) (g : Mem) (bs N : Nat) (xs : Nat → Int32) (U : State) : Prop := zPc D k a g U ∧ va_X bs N xs U U.heap ∧ ¬ zA a bs
theorem zPx.blind {D : va_G} {k : Nat → ClassId} {a : Nat → Nat → Nat} {g : Mem} {bs N : Nat} {xs : Nat → Int32} {As : List Value} : FrameBlind (va_Pc As (zPx D k a g bs N xs)) := by
  rintro v U f mk ⟨h0, ⟨h1, h2, h3, h4⟩, h5, h6⟩
  exact ⟨h0, ⟨h1, va_K.moved (u := U) (U := U.calling f mk v) (Vm.Alike.refl U.vm) h2, h3, zX.same h4 rfl⟩, va_X.moved (u := U) (U := U.calling f mk v) (Vm.Alike.refl U.vm) h5, h6⟩
def zSc (l : Launch) (y : MethodName) (b : ByteArray) (n : Nat) (ret : FieldType) (fr lo : Nat) (D : va_G) (k : Nat → ClassId) (a : Nat → Nat → Nat) (As : List Value) (g : Mem) (bs N : Nat) (xs : Nat → Int32) (post : Int32 → Mem → Prop) : Prop :=
  Met l y (.code y b n (some ret) :: GW) (zRoom fr lo) (va_Pc As (zPx D k a g bs N xs)) (va_Qi post (fun g2 t => va_P D vwCl (zW k a g2) t.heap) (zA a)) 0 0 (zA a)
theorem zSc_of {l : Launch} {y : MethodName} {b : ByteArray} {n fr lo : Nat} {ret : FieldType} {D : va_G} {k : Nat → ClassId} {a : Nat → Nat → Nat} {As : List Value} {g : Mem} {own : String} {bs N : Nat} {xs : Nat → Int32} {post : Int32 → Mem → Prop} (hy : plainName own = true) (ho : y.cls = own) (hn : (lg_sl As).length ≤ n)
    (body : ∀ {p : Program} {e : Env} {s : State} {m : MethodId} {args : Array Value} {below : List Frame} {meth : Method} {c : Code} (X : zC p m c b n s args own D k a) (hXs : va_X bs N xs s s.heap) (hbl : bs < s.heap.size) (hbA : ¬ zA a bs) (Q : State → Prop)
      (hret : ∀ (r : Int32) (g' : Mem) (H : Heap) (locs : List Loc) (pc : Nat) (ls : Array Slot), narrow ret (.int r) = .int r → post r g' → zH D k a s g' H locs → decode b pc = .ok (.ireturn, 1) → W p l e (zRoom fr lo) s m args below meth c H locs 0 0 Q (F0 m pc ls [.int r]))
      (hH : zH D k a s g s.heap []) (ls : Array Slot) (hl : lv_has ls n (lv_args 0 As)), W p l e (zRoom fr lo) s m args below meth c s.heap [] 0 0 Q (F0 m 0 ls [])) : zSc l y b n ret fr lo D k a As g bs N xs post := by
  refine Met.ofW (cc := b) (maxL := n) (ret := some ret) (by rw [ho]; exact hy) rfl ?_
  intro p e s m args below meth c s₁ B hml hv
  obtain ⟨rfl, ⟨hP, hK, hI, hX⟩, hXs, hbA⟩ := hv
  have hbl : bs < s.heap.size := by
    obtain ⟨scr, h1, -⟩ := hXs
    exact (Array.getElem?_eq_some_iff.mp h1).1
  have hts := atoms_spec (ws := .code y b n (some ret) :: GW) B.pre
  have hown : s.vm.findClass own = some m.cls := by rw [← ho]; exact findClass_of_methodNamed B.named
  have hl := lv_entry As (n := n) hn
  rw [lg_entry_eq]
  have hlocks := B.notSynchronized
  exact body ⟨⟨B.exec, B.bytes, hml, hown, fun w hw => hts w (List.mem_cons_of_mem _ hw)⟩, hK, hI, hX⟩ hXs hbl hbA _
    (fun r g' H locs pc ls h1 h2 h3 h4 => W.zret B.exec B.bytes B.returns h1 (fun t ht hW => ⟨⟨r, g', rfl, h2, (show va_P D vwCl (zW k a _) t.heap by rw [ht]; exact h3.1)⟩, h3.2.F ht⟩) h3.2.2.2 h4)
    ⟨hP, va_S.rf⟩ _ hl
section ZCX
variable {p : Program} {l : Launch} {e : Env} {R : Room} {s : State} {m : MethodId} {args : Array Value} {below : List Frame} {meth : Method} {c : Code} {H : Heap} {locs : List Loc} {cells slots : Nat} {Q : State → Prop}
variable {cc : ByteArray} {nL : Nat} {own : String} {pc : Nat} {ls : Array Slot} {rest st : List Value} {D : va_G} {k : Nat → ClassId} {a : Nat → Nat → Nat} {g : Mem}
variable {y : MethodName} {b : ByteArray} {n fr lo na idx : Nat} {ret : FieldType} {As : List Value} {bs N : Nat} {xs : Nat → Int32}
theorem z_prex (X : zC p m c cc nL s args own D k a) (hH : zH D k a s g H locs) (hXs : va_X bs N xs s s.heap) (hbA : ¬ zA a bs) : ∀ U : State, U.heap = H → s.WarmedH U.vm → va_Pc As (zPx D k a g bs N xs) As.toArray U := by
  intro U hU hW
  obtain ⟨h1, h2⟩ := z_pre (As := As) X hH U hU hW
  have hbl : bs < s.heap.size := by
    obtain ⟨scr, h1, -⟩ := hXs
    exact (Array.getElem?_eq_some_iff.mp h1).1
  exact ⟨h1, h2, (hXs.moved hW.alike).kept (by rw [hU]; exact hH.2.2.1 bs hbl hbA), hbA⟩
theorem z_callSx {post : Int32 → Mem → Prop} (X : zC p m c cc nL s args own D k a) (hH : zH D k a s g H locs) (hXs : va_X bs N xs s s.heap) (hbA : ¬ zA a bs) (hM : zSc l y b n ret fr lo D k a As g bs N xs post) (lk : zLkS own idx y b n (some ret) na) (rest : List Value) (hst : st = As.reverse ++ rest) (hna : As.length = na) (hls : ls.size = nL) (hw : (rest.map fun v => v.category).sum ≤ 8) (hR : fr + 1 ≤ R.frames ∧ 8 + (n + 11) + lo ≤ R.locals) (hcs : cells ≤ R.cells ∧ slots ≤ R.slots) (hdg : decode cc pc = .ok (.invokestatic idx, 3))
    (kk : ∀ (r : Int32) (g' : Mem) (H1 : Heap) (locs1 : List Loc), post r g' → zH D k a s g' H1 locs1 → W p l e R s m args below meth c H1 locs1 cells slots Q (F0 m (pc + 3) ls (.int r :: rest))) : W p l e R s m args below meth c H locs cells slots Q (F0 m pc ls st) :=
  va_calli (va_runS X.1 hM (z_cwS X lk hR) ⟨zPx.blind, z_prex X hH hXs hbA⟩ rfl hna hls hst (lv_room hw) hdg hcs) hH.2 (fun _ _ h => h) (fun _ h => h) (fun r u t H1 locs1 ht hvm hw hB hz hk hS => kk r u H1 locs1 hw ⟨by rw [← ht]; exact hB, hS⟩)
end ZCX
theorem c_L_cell (l : Launch) (D : va_G) (k : Nat → ClassId) (a : Nat → Nat → Nat) (g : Mem) (bs N : Nat) (xs : Nat → Int32) (hN : N < 2 ^ 31) (j : Nat) (hj : j < 4096) : zSc l yL_cell cL_cell 2 .int 0 0 D k a [.ref bs, .int (nI j)] g bs N xs (fun r g' => (∃ Y, Y < 2 ^ 31 ∧ r = nI Y) ∧ g' = g) := by
  refine zSc_of (own := RL) (by decide +kernel) rfl (Nat.le_of_ble_eq_true rfl) ?_
  intro p e s m args below meth c X hXs hbl hbA Q hret hH ls hl
  obtain ⟨hx, hb, hml, hown, hts⟩ := X.1
  have hl : lv_has ls 2 [(0, .ref bs), (1, .int (nI j))] := hl
  have fin : ∀ (r : Int32) (H : Heap) (locs : List Loc) (ls : Array Slot), zH D k a s g H locs → W p l e (zRoom 0 0) s m args below meth c H locs 0 0 Q (F0 m 24 ls [.int r]) := by
    intro r H locs ls hH
    refine lv_ldc hx hb hown (hts _ q_560) dL_cell_24 ?_
    refine lv_iand hx hb dL_cell_26 ?_
    obtain ⟨Y, hY, e⟩ := pk_andE r (m := 2147483647) 31 (by decide)
    rw [e]
    exact hret _ _ _ _ _ _ rfl ⟨⟨Y, hY, rfl⟩, rfl⟩ hH dL_cell_27
  refine lv_iload_n hx hb dL_cell_0 rfl (lv_at hl 1 rfl) ?_
  refine lv_aload_n hx hb dL_cell_1 rfl (lv_at hl 0 rfl) ?_
  refine va_slen hx hb hXs hbl hbA hH.2 dL_cell_2 ?_
  refine n_icmp_ge (A := j) (B := N) (tgt := 12) hx hb (by omega) hN dL_cell_3 (by decide) (fun c1 => ?_) (fun c1 => ?_)
  · refine lv_ldc hx hb hown (hts _ q_559) dL_cell_12 ?_
    refine lv_iload_n hx hb dL_cell_14 rfl (lv_at hl 1 rfl) ?_
    refine lv_sipush (v := 4096) hx hb dL_cell_15 (by decide) ?_
    refine n_irem (A := j) (B := 4096) hx hb (j % 4096) rfl (by omega) (by omega) (by omega) dL_cell_18 ?_
    refine lv_imul hx hb dL_cell_19 ?_
    refine lv_sipush (v := 317) hx hb dL_cell_20 (by decide) ?_
    refine lv_iadd hx hb dL_cell_23 ?_
    exact fin _ _ _ _ hH
  · refine lv_aload_n hx hb dL_cell_6 rfl (lv_at hl 0 rfl) ?_
    refine lv_iload_n hx hb dL_cell_7 rfl (lv_at hl 1 rfl) ?_
    refine va_sld hx hb hXs hbl hbA hH.2 (z_vpin c1 (by omega)) dL_cell_8 ?_
    refine lv_goto (tgt := 24) hx hb dL_cell_9 (by decide) ?_
    exact fin _ _ _ _ hH
