/-! what the acts keep of a row, and the specs in the model's order -/
theorem z_if2 {α : Type} {A B : Prop} [Decidable A] [Decidable B] (c d : α) : (if A then c else if B then c else d) = (if ¬ A ∧ ¬ B then d else c) := by
  by_cases a : A
  · rw [if_pos a, if_neg (fun q => q.1 a)]
  · by_cases b : B
    · rw [if_neg a, if_pos b, if_neg (fun q => q.2 b)]
    · rw [if_neg a, if_neg b, if_pos ⟨a, b⟩]
theorem z_if3 {α : Type} {A B C D : Prop} [Decidable A] [Decidable B] [Decidable C] [Decidable D] (c d : α) : (if A then c else if B then c else if ¬ C ∧ ¬ D then d else c) = (if (¬ A ∧ ¬ B) ∧ ¬ C ∧ ¬ D then d else c) := by
  by_cases a : A
  · rw [if_pos a, if_neg (fun q => q.1.1 a)]
  · by_cases b : B
    · rw [if_neg a, if_pos b, if_neg (fun q => q.1.2 b)]
    · by_cases e : ¬ C ∧ ¬ D
      · rw [if_neg a, if_neg b, if_pos e, if_pos ⟨⟨a, b⟩, e⟩]
      · rw [if_neg a, if_neg b, if_neg e, if_neg (fun q => e q.2)]
theorem zFl_w {v w : V} (hf : zFl v) (h : ∀ t, t < 12 → (w (13 + 11 * t + 0) = v (13 + 11 * t + 0) ∨ w (13 + 11 * t + 0) = 0 ∨ w (13 + 11 * t + 0) = 1) ∧ (w (13 + 11 * t + 8) = v (13 + 11 * t + 8) ∨ w (13 + 11 * t + 8) = 0 ∨ w (13 + 11 * t + 8) = 1)) : zFl w := by
  intro t ht
  obtain ⟨h1, h2⟩ := h t ht
  constructor
  · rcases h1 with q | q
    · rw [q]; exact (hf t ht).1
    · exact q
  · rcases h2 with q | q
    · rw [q]; exact (hf t ht).2
    · exact q
theorem zFl_f0 {v : V} {z : Nat} {b : Int32} (hf : zFl v) (hb : b = 0 ∨ b = 1) : zFl (upd v (13 + 11 * z + 0) b) := zFl_w hf (fun t ht => by
  by_cases e : t = z
  · subst e; exact ⟨Or.inr (by rw [zu_s]; exact hb), Or.inl (zu_n _ _ (by omega))⟩
  · exact ⟨Or.inl (zu_n _ _ (by omega)), Or.inl (zu_n _ _ (by omega))⟩)
theorem zFl_f8 {v : V} {z : Nat} {b : Int32} (hf : zFl v) (hb : b = 0 ∨ b = 1) : zFl (upd v (13 + 11 * z + 8) b) := zFl_w hf (fun t ht => by
  by_cases e : t = z
  · subst e; exact ⟨Or.inl (zu_n _ _ (by omega)), Or.inr (by rw [zu_s]; exact hb)⟩
  · exact ⟨Or.inl (zu_n _ _ (by omega)), Or.inl (zu_n _ _ (by omega))⟩)
theorem zFl_crowd : ∀ (n : Nat) (v : V), zFl v → zFl (fCrowd n v)
  | 0, _, hf => hf
  | n + 1, v, hf => by
    rw [fCrowd]
    split
    · exact hf
    · exact zFl_crowd n _ (zFl_kill hf)
theorem zFl_room {v : V} {s : Nat} (hf : zFl v) : zFl (fRoom v s) := by
  unfold fRoom
  split
  · exact zFl_crowd _ _ hf
  · exact hf
theorem fPlace_n {v : V} {s j : Nat} {w n a b : Int32} (h : ∀ f, f < 11 → j ≠ 13 + 11 * s + f) : fPlace v s w n a b j = v j := by
  unfold fPlace
  rw [zu_n _ _ (h 7 (by omega)), zu_n _ _ (h 6 (by omega)), zu_n _ _ (h 9 (by omega)), zu_n _ _ (h 10 (by omega)), zu_n _ _ (h 5 (by omega)), zu_n _ _ (h 4 (by omega)), zu_n _ _ (h 3 (by omega)), zu_n _ _ (h 2 (by omega)), zu_n _ _ (h 1 (by omega)), zu_n _ _ (h 8 (by omega)), zu_n _ _ (h 0 (by omega))]
theorem fPlace_0 {v : V} {s : Nat} {w n a b : Int32} : fPlace v s w n a b (13 + 11 * s + 0) = 1 := by
  unfold fPlace
  rw [zu_n _ _ (by omega), zu_n _ _ (by omega), zu_n _ _ (by omega), zu_n _ _ (by omega), zu_n _ _ (by omega), zu_n _ _ (by omega), zu_n _ _ (by omega), zu_n _ _ (by omega), zu_n _ _ (by omega), zu_n _ _ (by omega), zu_s]
theorem fPlace_8 {v : V} {s : Nat} {w n a b : Int32} : fPlace v s w n a b (13 + 11 * s + 8) = 0 := by
  unfold fPlace
  rw [zu_n _ _ (by omega), zu_n _ _ (by omega), zu_n _ _ (by omega), zu_n _ _ (by omega), zu_n _ _ (by omega), zu_n _ _ (by omega), zu_n _ _ (by omega), zu_n _ _ (by omega), zu_n _ _ (by omega), zu_s]
theorem fPlace_5 {v : V} {s : Nat} {w n a b : Int32} : fPlace v s w n a b (13 + 11 * s + 5) = fCost v s w n := by
  unfold fPlace
  rw [zu_n _ _ (by omega), zu_n _ _ (by omega), zu_n _ _ (by omega), zu_n _ _ (by omega), zu_s]
theorem zFl_place {v : V} {s : Nat} {w n a b : Int32} (hf : zFl v) : zFl (fPlace v s w n a b) := zFl_w hf (fun t ht => by
  by_cases e : t = s
  · subst e; exact ⟨Or.inr (Or.inr fPlace_0), Or.inr (Or.inl fPlace_8)⟩
  · exact ⟨Or.inl (fPlace_n (fun f hf => by omega)), Or.inl (fPlace_n (fun f hf => by omega))⟩)
theorem zJv_room {v : V} {s : Nat} (h : ∀ j, 160 ≤ j → v j = 0) : ∀ j, 160 ≤ j → fRoom v s j = 0 := fun j hj => by
  rw [fRoom_o (by omega)]; exact h j hj
theorem zJv_place {v : V} {s : Nat} {w n a b : Int32} (hs : s < 12) (h : ∀ j, 160 ≤ j → v j = 0) : ∀ j, 160 ≤ j → fPlace v s w n a b j = 0 := fun j hj => by
  rw [fPlace_o hs (by omega)]; exact h j hj
theorem zJv_ask {v : V} {s : Nat} {n : Int32} (hs : s < 12) (h : ∀ j, 160 ≤ j → v j = 0) : ∀ j, 160 ≤ j → (fAsk v s n).2 j = 0 := fun j hj => by
  have e1 : ∀ (v : V), (fHit v s n).2 j = v j := fun v => by
    unfold fHit fHitV
    dsimp only
    split
    · rw [zu_n _ _ (by omega), zu_n _ _ (by omega), zu_n _ _ (by omega), zu_n _ _ (by omega), zu_n _ _ (by omega)]
    · rw [zu_n _ _ (by omega), zu_n _ _ (by omega), zu_n _ _ (by omega)]
  have e2 : ∀ (v : V), (fMiss v s n).2 j = v j := fun v => by
    unfold fMiss fMissV fMissA
    dsimp only
    split
    · rw [fPlace_o hs (by omega), fRoom_o (by omega), zu_n _ _ (by omega), zu_n _ _ (by omega)]
    · rw [fRoom_o (by omega), zu_n _ _ (by omega), zu_n _ _ (by omega)]
  unfold fAsk fAskQ
  dsimp only
  rw [zu_n _ _ (by omega), zu_n _ _ (by omega), zu_n _ _ (by omega)]
  split
  · rw [e1, zu_n _ _ (by omega)]; exact h j hj
  · rw [e2, zu_n _ _ (by omega)]; exact h j hj
theorem zS_h {v : V} {i : Nat} (hi : i < 12) : hasP v (nI i) ↔ ¬ v (13 + 11 * i + 0) = 0 := by
  unfold hasP okS
  rw [iNn (by omega)]
  exact ⟨fun q => q.2, fun q => ⟨⟨nI_pos (by omega), (nI_ltI (a := i) (b := 12) (by omega) (by omega)).mpr hi⟩, q⟩⟩
theorem zLe_3 : zLe 3 = 1 := by decide
theorem zMo_3 : zMo 3 = 12 := by decide
theorem zFl_s {v : V} {i : Nat} {x : Int32} (hi : i < 5) (hf : zFl v) : zFl (upd v (8 + i) x) := zFl_co (fun j h1 h2 => zu_n _ _ (by omega)) hf
theorem fDown_0 {v : V} {m : Int32} (h : ¬ m < fK v 12) (hm : 0 ≤ m.toInt) : fDown v m = v := by
  obtain ⟨q, hq, e⟩ := fK_nat (v := v) 12
  unfold fDown
  rw [show (fK v 12 - m).toNatClampNeg = 0 from by
    rw [e] at h ⊢
    have h1 : ¬ m.toInt < (nI q).toInt := fun w => h (z_i.mpr w)
    have h2 : (nI q).toInt = q := nI_toInt (by omega)
    have h3 : (nI q - m).toInt = (nI q).toInt - m.toInt := by
      rw [Int32.toInt_sub, Int.bmod_eq_of_le (by have := m.toInt_lt; omega) (by have := m.le_toInt; omega)]
    show (nI q - m).toInt.toNat = 0
    omega]
  rfl
theorem fDown_n {v : V} {X q : Nat} (e : fK v 12 = nI (X + q)) (h : X + q ≤ 12) : fDown v (nI X) = fCrowd q v := by
  unfold fDown
  rw [e, ← nI_add, Int32.add_comm (nI X), Int32.add_sub_cancel, nI_clamp (by omega)]
theorem mRecU_co {u w : V} {n : Nat} (h : ∀ j, j < 3 → w j = u j) : ∀ j, j < 3 → mRecU w n j = mRecU u n j := fun j hj => by
  unfold mRecU
  by_cases e : j = 0
  · subst e; rw [zu_s, zu_s]
  · rw [zu_n _ _ e, zu_n _ _ e]; exact h j hj
