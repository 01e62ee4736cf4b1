theorem lw_cmp {N i : Nat} (hN : N ≤ 3072) (hi : i ≤ N) : Int32.ofNat N - 6 < nI i ↔ N < i + 6 := by
  by_cases h : 6 ≤ N
  · have e : nI N = nI (N - 6) + nI 6 := by rw [nI_add, Nat.sub_add_cancel h]
    rw [show Int32.ofNat N = nI N from rfl, e, show nI 6 = 6 from rfl, Int32.add_sub_cancel, Int32.lt_iff_toInt_lt, nI_toInt (by omega), nI_toInt (by omega)]
    omega
  · rcases (show N = 0 ∨ N = 1 ∨ N = 2 ∨ N = 3 ∨ N = 4 ∨ N = 5 by omega) with rfl | rfl | rfl | rfl | rfl | rfl
    · rw [Int32.lt_iff_toInt_lt, show (Int32.ofNat 0 - 6).toInt = -6 by decide, nI_toInt (by omega)]; omega
    · rw [Int32.lt_iff_toInt_lt, show (Int32.ofNat 1 - 6).toInt = -5 by decide, nI_toInt (by omega)]; omega
    · rw [Int32.lt_iff_toInt_lt, show (Int32.ofNat 2 - 6).toInt = -4 by decide, nI_toInt (by omega)]; omega
    · rw [Int32.lt_iff_toInt_lt, show (Int32.ofNat 3 - 6).toInt = -3 by decide, nI_toInt (by omega)]; omega
    · rw [Int32.lt_iff_toInt_lt, show (Int32.ofNat 4 - 6).toInt = -2 by decide, nI_toInt (by omega)]; omega
    · rw [Int32.lt_iff_toInt_lt, show (Int32.ofNat 5 - 6).toInt = -1 by decide, nI_toInt (by omega)]; omega
section LLP
variable {p : Program} {l : Launch} {e : Env} {s : State} {m : MethodId} {args : Array Value} {below : List Frame} {meth : Method} {c : Code} {Q : State → Prop}
variable {D : va_G} {k : Nat → ClassId} {a : Nat → Nat → Nat} {b N : Nat} {xs : Nat → Int32}
set_option maxRecDepth 100000 in
set_option maxHeartbeats 4000000 in
theorem lw_loop (Y : lwC p m c s args D k a b N xs) (hge : ∀ q, zA a q → s.heap.size ≤ q) (hret : ∀ (H : Heap) (ls : Array Slot), W p l e room_1 s m args below meth c H [] 600000 7302249 Q (F0 m 776 ls [.int 1])) : ∀ (d i : Nat), N ≤ i + d → i ≤ N → ∀ (G : Mem) (H : Heap) (locs : List Loc) (ls : Array Slot), zSim G → zH D k a s G H locs → lwI a b i ls → W p l e room_1 s m args below meth c H locs 131 2418 Q (F0 m 18 ls []) := by
  have Y' := Y
  obtain ⟨X, hX, hbl, hbA, hN⟩ := Y'
  obtain ⟨hx, hb, hml, hown, hts⟩ := X.1
  intro d
  induction d with
  | zero =>
    intro i hd hi G H locs ls hZ hH hl
    refine lv_iload_n hx hb dL_law_18 rfl (lv_at hl 0 rfl) ?_
    refine lv_aload_n hx hb dL_law_19 rfl (lv_at hl 3 rfl) ?_
    refine va_slen hx hb hX hbl hbA hH.2 dL_law_20 ?_
    refine lv_bipush (v := 6) hx hb dL_law_21 (by decide) ?_
    refine lv_isub hx hb dL_law_23 ?_
    refine lv_icmp_gt (tgt := 775) hx hb dL_law_24 (by decide) (fun q => ?_) (fun q => absurd ((lw_cmp hN hi).mpr (by omega)) q)
    refine lv_iconst (v := 1) hx hb dL_law_775 (by decide) ?_
    refine va_forget (fun q hq => hge _ (hH.2.2.2 q hq)) ?_
    refine W.widen (k := 600000) (n := 7302249) (Nat.le_of_ble_eq_true rfl) (Nat.le_of_ble_eq_true rfl) ?_
    exact hret _ _
  | succ d ih =>
    intro i hd hi G H locs ls hZ hH hl
    refine lv_iload_n hx hb dL_law_18 rfl (lv_at hl 0 rfl) ?_
    refine lv_aload_n hx hb dL_law_19 rfl (lv_at hl 3 rfl) ?_
    refine va_slen hx hb hX hbl hbA hH.2 dL_law_20 ?_
    refine lv_bipush (v := 6) hx hb dL_law_21 (by decide) ?_
    refine lv_isub hx hb dL_law_23 ?_
    refine lv_icmp_gt (tgt := 775) hx hb dL_law_24 (by decide) (fun q => ?_) (fun q => ?_)
    · refine lv_iconst (v := 1) hx hb dL_law_775 (by decide) ?_
      refine va_forget (fun q hq => hge _ (hH.2.2.2 q hq)) ?_
      refine W.widen (k := 600000) (n := 7302249) (Nat.le_of_ble_eq_true rfl) (Nat.le_of_ble_eq_true rfl) ?_
      exact hret _ _
    · have hi6 : i + 6 ≤ N := Nat.le_of_not_lt (fun h => q ((lw_cmp hN hi).mpr h))
      refine lv_aload_n hx hb dL_law_27 rfl (lv_at hl 3 rfl) ?_
      refine lv_iload_n hx hb dL_law_28 rfl (lv_at hl 0 rfl) ?_
      refine va_sld hx hb hX hbl hbA hH.2 (z_vpin (show i < N by omega) (by omega)) dL_law_29 ?_
      rw [z_cl (show i < N by omega) (by omega)]
      refine lv_bipush (v := 31) hx hb dL_law_30 (by decide) ?_
      refine lv_iand hx hb dL_law_32 ?_
      refine lv_topi (fun sw _ => ?_)
      have kk : ∀ (G2 : Mem) (H : Heap) (locs : List Loc), zSim G2 → zH D k a s G2 H locs → W p l e room_1 s m args below meth c H locs 131 2418 Q (F0 m 769 ls []) := by
        intro G2 H locs hZ hH
        refine lv_iinc (v := nI (i + 6)) (lv' := [(3, .int (nI (i + 6))), (2, .ref (a 6 8)), (1, .ref (a 6 0)), (0, .ref b)]) hx hb dL_law_769 hl (k := 0) rfl (nI_add i 6) (by decide) rfl (fun ls hl => ?_)
        refine lv_goto (tgt := 18) hx hb dL_law_772 (by decide) ?_
        exact ih (i + 6) (by omega) (by omega) G2 H locs ls hZ hH hl
      by_cases hsw : sw.toInt < 0 ∨ 20 < sw.toInt
      · exact lv_tableOut (tgt := 769) hx hb dL_law_33 hsw (by decide) (kk G H locs hZ hH)
      · rcases (show sw.toInt = 0 ∨ sw.toInt = 1 ∨ sw.toInt = 2 ∨ sw.toInt = 3 ∨ sw.toInt = 4 ∨ sw.toInt = 5 ∨ sw.toInt = 6 ∨ sw.toInt = 7 ∨ sw.toInt = 8 ∨ sw.toInt = 9 ∨ sw.toInt = 10 ∨ sw.toInt = 11 ∨ sw.toInt = 12 ∨ sw.toInt = 13 ∨ sw.toInt = 14 ∨ sw.toInt = 15 ∨ sw.toInt = 16 ∨ sw.toInt = 17 ∨ sw.toInt = 18 ∨ sw.toInt = 19 ∨ sw.toInt = 20 by omega) with hs | hs | hs | hs | hs | hs | hs | hs | hs | hs | hs | hs | hs | hs | hs | hs | hs | hs | hs | hs | hs
        · exact lv_tableIn (off := 99) (tgt := 132) hx hb dL_law_33 (by omega) (by omega) (by rw [hs]; rfl) (by decide) (lc_0 Y hZ hH hi6 hl kk)
        · exact lv_tableIn (off := 158) (tgt := 191) hx hb dL_law_33 (by omega) (by omega) (by rw [hs]; rfl) (by decide) (lc_1 Y hZ hH hi6 hl kk)
        · exact lv_tableIn (off := 191) (tgt := 224) hx hb dL_law_33 (by omega) (by omega) (by rw [hs]; rfl) (by decide) (lc_2 Y hZ hH hi6 hl kk)
        · exact lv_tableIn (off := 204) (tgt := 237) hx hb dL_law_33 (by omega) (by omega) (by rw [hs]; rfl) (by decide) (lc_3 Y hZ hH hi6 hl kk)
        · exact lv_tableIn (off := 253) (tgt := 286) hx hb dL_law_33 (by omega) (by omega) (by rw [hs]; rfl) (by decide) (lc_4 Y hZ hH hi6 hl kk)
        · exact lv_tableIn (off := 276) (tgt := 309) hx hb dL_law_33 (by omega) (by omega) (by rw [hs]; rfl) (by decide) (lc_5 Y hZ hH hi6 hl kk)
        · exact lv_tableIn (off := 339) (tgt := 372) hx hb dL_law_33 (by omega) (by omega) (by rw [hs]; rfl) (by decide) (lc_6 Y hZ hH hi6 hl kk)
        · exact lv_tableIn (off := 372) (tgt := 405) hx hb dL_law_33 (by omega) (by omega) (by rw [hs]; rfl) (by decide) (lc_7 Y hZ hH hi6 hl kk)
        · exact lv_tableIn (off := 397) (tgt := 430) hx hb dL_law_33 (by omega) (by omega) (by rw [hs]; rfl) (by decide) (lc_8 Y hZ hH hi6 hl kk)
        · exact lv_tableIn (off := 410) (tgt := 443) hx hb dL_law_33 (by omega) (by omega) (by rw [hs]; rfl) (by decide) (lc_9 Y hZ hH hi6 hl kk)
        · exact lv_tableIn (off := 423) (tgt := 456) hx hb dL_law_33 (by omega) (by omega) (by rw [hs]; rfl) (by decide) (lc_10 Y hZ hH hi6 hl kk)
        · exact lv_tableIn (off := 436) (tgt := 469) hx hb dL_law_33 (by omega) (by omega) (by rw [hs]; rfl) (by decide) (lc_11 Y hZ hH hi6 hl kk)
        · exact lv_tableIn (off := 449) (tgt := 482) hx hb dL_law_33 (by omega) (by omega) (by rw [hs]; rfl) (by decide) (lc_12 Y hZ hH hi6 hl kk)
        · exact lv_tableIn (off := 492) (tgt := 525) hx hb dL_law_33 (by omega) (by omega) (by rw [hs]; rfl) (by decide) (lc_13 Y hZ hH hi6 hl kk)
        · exact lv_tableIn (off := 525) (tgt := 558) hx hb dL_law_33 (by omega) (by omega) (by rw [hs]; rfl) (by decide) (lc_14 Y hZ hH hi6 hl kk)
        · exact lv_tableIn (off := 558) (tgt := 591) hx hb dL_law_33 (by omega) (by omega) (by rw [hs]; rfl) (by decide) (lc_15 Y hZ hH hi6 hl kk)
        · exact lv_tableIn (off := 591) (tgt := 624) hx hb dL_law_33 (by omega) (by omega) (by rw [hs]; rfl) (by decide) (lc_16 Y hZ hH hi6 hl kk)
        · exact lv_tableIn (off := 634) (tgt := 667) hx hb dL_law_33 (by omega) (by omega) (by rw [hs]; rfl) (by decide) (lc_17 Y hZ hH hi6 hl kk)
        · exact lv_tableIn (off := 667) (tgt := 700) hx hb dL_law_33 (by omega) (by omega) (by rw [hs]; rfl) (by decide) (lc_18 Y hZ hH hi6 hl kk)
        · exact lv_tableIn (off := 680) (tgt := 713) hx hb dL_law_33 (by omega) (by omega) (by rw [hs]; rfl) (by decide) (lc_19 Y hZ hH hi6 hl kk)
        · exact lv_tableIn (off := 713) (tgt := 746) hx hb dL_law_33 (by omega) (by omega) (by rw [hs]; rfl) (by decide) (lc_20 Y hZ hH hi6 hl kk)
end LLP
