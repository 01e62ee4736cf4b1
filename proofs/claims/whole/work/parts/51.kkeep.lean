/-! the rows behind the public acts -/
def zOkO (o : Option V) : Prop := ∀ w, o = some w → zOkV w
theorem zOkO_n : zOkO none := fun _ e => nomatch e
theorem zOkO_s {v : V} (h : zOkV v) : zOkO (some v) := fun w e => by injection e with e; rw [← e]; exact h
theorem kTable_ok {v : V} {q x many : Int32} (h : zOkV v) : zOkO (kTable v q x many).2 := by
  unfold kTable
  by_cases a : okT q
  · rw [if_pos a]
    obtain ⟨z, hz, rfl⟩ := zIx (B := 4) (b := 4) rfl (by decide) a
    rw [iNn (by omega)]
    by_cases b : many < (if x = 0 then 0 else 1)
    · rw [if_pos b]; exact zOkO_n
    · rw [if_neg b]
      by_cases c : 9999 < many
      · rw [if_pos c]; exact zOkO_n
      · rw [if_neg c]
        by_cases d : (if x = 0 then v z else v (4 + z)) = many
        · rw [if_pos d]; exact zOkO_n
        · rw [if_neg d]; exact zOkO_s (zOkV_size hz b c h)
  · rw [if_neg a]; exact zOkO_n
theorem okN_b {z : Nat} {n : Int32} (h : okN z n) : ¬ n < 0 ∧ ¬ 9999 < n := by
  refine ⟨?_, h.2⟩
  by_cases a : z % 3 = 0
  · have q := h.1; rw [if_pos a] at q; exact q
  · have q := h.1; rw [if_neg a] at q; exact z_l1 q
theorem kAsk_ok {v : V} {x n : Int32} (h : zOkV v) : zOkO (kAsk v x n).2 := by
  unfold kAsk
  by_cases a : okS x
  · rw [if_pos a]
    obtain ⟨z, hz, rfl⟩ := zIx (B := 12) (b := 12) rfl (by decide) a
    rw [iNn (by omega)]
    by_cases b : okN z n
    · rw [if_pos b]; exact zOkO_s (zOkV_ask hz (okN_b b) h)
    · rw [if_neg b]; exact zOkO_n
  · rw [if_neg a]; exact zOkO_n
theorem kPin_ok {v : V} {x b : Int32} (hb : b = 0 ∨ b = 1) (h : zOkV v) : zOkO (kPin v x b).2 := by
  unfold kPin
  by_cases a : hasP v x
  · rw [if_pos a]
    obtain ⟨z, hz, rfl⟩ := zIx (B := 12) (b := 12) rfl (by decide) a.1
    rw [iNn (by omega)]
    by_cases d : v (13 + 11 * z + 8) = b
    · rw [if_pos d]; exact zOkO_n
    · rw [if_neg d]; exact zOkO_s (zOkV_f8 hz hb h)
  · rw [if_neg a]; exact zOkO_n
theorem kThrow_ok {v : V} {x : Int32} (h : zOkV v) : zOkO (kThrow v x).2 := by
  unfold kThrow
  by_cases a : hasP v x
  · rw [if_pos a]
    obtain ⟨z, hz, rfl⟩ := zIx (B := 12) (b := 12) rfl (by decide) a.1
    rw [iNn (by omega)]
    exact zOkO_s (zOkV_f0 hz (Or.inl rfl) h)
  · rw [if_neg a]; exact zOkO_n
theorem kMake_ok {v : V} {x w n lo hi : Int32} (h : zOkV v) : zOkO (kMake v x w n lo hi).2 := by
  unfold kMake kMakeV
  by_cases a : okS x
  · rw [if_pos a]
    obtain ⟨z, hz, rfl⟩ := zIx (B := 12) (b := 12) rfl (by decide) a
    rw [iNn (by omega)]
    by_cases b : okW w
    · rw [if_pos b]
      by_cases c : okN z n
      · rw [if_pos c]
        by_cases d1 : lo < 0
        · rw [if_pos d1]; exact zOkO_n
        · rw [if_neg d1]
          by_cases d2 : 9999 < lo
          · rw [if_pos d2]; exact zOkO_n
          · rw [if_neg d2]
            by_cases d3 : hi < lo
            · rw [if_pos d3]; exact zOkO_n
            · rw [if_neg d3]
              by_cases d4 : 99999 < hi
              · rw [if_pos d4]; exact zOkO_n
              · rw [if_neg d4]
                by_cases d5 : fCould v z = true
                · rw [if_pos d5]; exact zOkO_s (zOkV_place hz (okN_b c) (zOkV_room h))
                · rw [if_neg d5]; exact zOkO_n
      · rw [if_neg c]; exact zOkO_n
    · rw [if_neg b]; exact zOkO_n
  · rw [if_neg a]; exact zOkO_n
theorem zOkV_set {v : V} {i : Nat} {x : Int32} (hi : i < 5) (h1 : ¬ x < zLe i) (h2 : ¬ zMo i < x) (h : zOkV v) : zOkV (upd v (8 + i) x) := by
  obtain ⟨hf, hk, ⟨hg1, hg2⟩, h9, ⟨R, eR, hR⟩, hbd, hv⟩ := h
  refine ⟨zFl_s hi hf, fun t ht => ?_, ⟨?_, fun z hz => ?_⟩, ?_, ?_, fun t ht => ?_, fun j hj => ?_⟩
  · rw [zu_n _ _ (by omega)]; exact hk t ht
  · by_cases e : i = 4
    · subst e
      rw [zu_s]
      rw [z_i, show (zLe 4).toInt = 1 by decide] at h1
      rw [z_i, show (zMo 4).toInt = 20 by decide] at h2
      omega
    · rw [zu_n _ _ (by omega)]; exact hg1
  · rw [zu_n _ _ (by omega)]; exact hg2 z hz
  · by_cases e : i = 1
    · subst e; rw [zu_s]; exact h1
    · rw [zu_n _ _ (by omega)]; exact h9
  · by_cases e : i = 3
    · subst e
      rw [zLe_3] at h1
      rw [zMo_3] at h2
      obtain ⟨Y, hY, ey⟩ := nI_of (z_l1 h1)
      subst ey
      exact ⟨Y, zu_s _ _ _, Nat.not_lt.mp (fun q9 => h1 (nI_lt (a := Y) (b := 1) q9 (by omega))), Nat.not_lt.mp (fun q9 => h2 (nI_lt (a := 12) (b := Y) q9 hY))⟩
    · exact ⟨R, by rw [zu_n _ _ (by omega)]; exact eR, hR⟩
  · rw [zu_n _ _ (by omega), zu_n _ _ (by omega)]; exact hbd t ht
  · rw [zu_n _ _ (by omega)]; exact hv j hj
theorem kSet_ok {v : V} {i x : Int32} (h : zOkV v) : zOkO (kSet v i x).2 := by
  unfold kSet
  by_cases a : i < 0
  · rw [if_pos a]; exact zOkO_n
  · rw [if_neg a]
    by_cases b : ¬ i < 5
    · rw [if_pos b]; exact zOkO_n
    · rw [if_neg b]
      obtain ⟨z, hz, rfl⟩ := zIx (B := 5) (b := 5) rfl (by decide) ⟨a, Classical.not_not.mp b⟩
      rw [iNn (by omega)]
      by_cases c : x < zLe z
      · rw [if_pos c]; exact zOkO_n
      · rw [if_neg c]
        by_cases d : zMo z < x
        · rw [if_pos d]; exact zOkO_n
        · rw [if_neg d]
          by_cases e : v (8 + z) = x
          · rw [if_pos e]; exact zOkO_n
          · rw [if_neg e]
            have hs := zOkV_set hz c d h
            by_cases f : z = 3
            · rw [if_pos f]; exact zOkO_s (zOkV_crowd _ _ hs)
            · rw [if_neg f]; exact zOkO_s hs
theorem fRun_ok : ∀ (ls : List (Int32 × Int32 × Int32)) (x : Int32) (v : V), (∀ q, q ∈ ls → okL q) → zOkV v → zOkV (fRun ls x v).2
  | [], _, _, _, h => h
  | q :: ls, x, v, hl, h => by
    rw [fRun_s]
    exact fRun_ok ls _ _ (fun p hp => hl p (List.mem_cons_of_mem _ hp)) (zOkV_step h (hl q (List.mem_cons_self)))
theorem kAll_ok {x v : V} {L : Nat} (h : zOkV v) : zOkO (kAll x L v).2 := by
  unfold kAll
  cases e : (fRd x L 11 0).2 with
  | some f => exact zOkO_n
  | none => exact zOkO_s (fRun_ok _ _ _ (fRd_ok x L) h)
