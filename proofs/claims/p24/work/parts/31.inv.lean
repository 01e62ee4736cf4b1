/-! what every run of acts keeps: rows, settings, accounts, plans -/
theorem t_i {x y : Int32} : x < y ↔ x.toInt < y.toInt := Int32.lt_iff_toInt_lt
theorem t_le {x y : Int32} : x ≤ y ↔ x.toInt ≤ y.toInt := Int32.le_iff_toInt_le
theorem t_eq {x y : Int32} (h : x.toInt = y.toInt) : x = y := Int32.toInt_inj.mp h
theorem t_add {x y : Int32} (h1 : -2147483648 ≤ x.toInt + y.toInt) (h2 : x.toInt + y.toInt < 2147483648) : (x + y).toInt = x.toInt + y.toInt := by
  rw [Int32.toInt_add, Int.bmod_eq_of_le (by omega) (by omega)]
theorem t_sub {x y : Int32} (h1 : -2147483648 ≤ x.toInt - y.toInt) (h2 : x.toInt - y.toInt < 2147483648) : (x - y).toInt = x.toInt - y.toInt := by
  rw [Int32.toInt_sub, Int.bmod_eq_of_le (by omega) (by omega)]
theorem t_mul {x y : Int32} (h1 : -2147483648 ≤ x.toInt * y.toInt) (h2 : x.toInt * y.toInt < 2147483648) : (x * y).toInt = x.toInt * y.toInt := by
  rw [Int32.toInt_mul, Int.bmod_eq_of_le (by omega) (by omega)]
theorem t_0 : (0 : Int32).toInt = 0 := by decide
theorem t_1 : (1 : Int32).toInt = 1 := by decide
theorem t_of {x : Int32} {N : Nat} (h0 : 0 ≤ x.toInt) (h : x.toInt ≤ (N : Int)) : ∃ m : Nat, m ≤ N ∧ x = nI m ∧ (m : Int) = x.toInt := by
  obtain ⟨j, hj, e⟩ := nI_of (x := x) (fun q => by rw [t_i, t_0] at q; omega)
  have e2 : x.toInt = (j : Int) := by rw [e, nI_toInt hj]
  exact ⟨j, by omega, e, e2.symm⟩
def iR (v : V) : Prop := ∀ t, t < 4 → (0 ≤ (v t).toInt ∧ (v t).toInt ≤ 9999) ∧ 1 ≤ (v (4 + t)).toInt ∧ (v (4 + t)).toInt ≤ 9999
def iS (v : V) : Prop := (0 ≤ (v 8).toInt ∧ (v 8).toInt ≤ 999) ∧ (1 ≤ (v 9).toInt ∧ (v 9).toInt ≤ 20) ∧ (1 ≤ (v 10).toInt ∧ (v 10).toInt ≤ 999) ∧ (1 ≤ (v 11).toInt ∧ (v 11).toInt ≤ 12) ∧ 1 ≤ (v 12).toInt ∧ (v 12).toInt ≤ 20
def iA (B : Int) (v : V) : Prop := (0 ≤ (v 146).toInt ∧ 0 ≤ (v 147).toInt ∧ (v 146).toInt + (v 147).toInt = (v 145).toInt ∧ (v 145).toInt ≤ B) ∧ (0 ≤ (v 149).toInt ∧ (v 149).toInt ≤ (v 148).toInt ∧ (v 148).toInt ≤ 1001000 * B) ∧ (0 ≤ (v 150).toInt ∧ (v 150).toInt ≤ (v 146).toInt) ∧ (0 ≤ (v 151).toInt ∧ (v 151).toInt ≤ 12 * B) ∧ 0 + v 152 + v 153 + v 154 + v 155 = v 145 ∧ 0 + v 156 + v 157 + v 158 + v 159 = v 148
def iP (v : V) (s : Nat) : Prop := ¬ v (13 + 11 * s + 0) = 0 →
  (v (13 + 11 * s + 1) = 0 ∨ v (13 + 11 * s + 1) = 1 ∨ v (13 + 11 * s + 1) = 2) ∧
  (v (13 + 11 * s + 2)).toInt ≤ (v (13 + 11 * s + 3)).toInt ∧
  ((if s % 3 = 0 then 0 else 1) ≤ (v (13 + 11 * s + 4)).toInt ∧ (v (13 + 11 * s + 4)).toInt ≤ 9999) ∧
  (0 ≤ (v (13 + 11 * s + 10)).toInt ∧ (v (13 + 11 * s + 10)).toInt ≤ 9999) ∧
  (0 ≤ (v (13 + 11 * s + 6)).toInt ∧ (v (13 + 11 * s + 6)).toInt ≤ (v (13 + 11 * s + 7)).toInt ∧ (v (13 + 11 * s + 7)).toInt ≤ (v 145).toInt) ∧
  (0 ≤ (v (13 + 11 * s + 9)).toInt ∧ (v (13 + 11 * s + 9)).toInt ≤ (v 145).toInt - (v (13 + 11 * s + 6)).toInt) ∧
  (¬ s % 3 = 1 → ∀ u : V, u (s / 3) = v (13 + 11 * s + 10) → v (13 + 11 * s + 5) = fCost u s (v (13 + 11 * s + 1)) (v (13 + 11 * s + 4)))
def zPl (v : V) : Prop := zFl v ∧ iR v ∧ iS v ∧ (∀ s, s < 12 → iP v s) ∧ ∀ j, 160 ≤ j → v j = 0
def zInv (B : Int) (v : V) : Prop := zPl v ∧ iA B v
theorem iR_co {v w : V} (e : ∀ j, j < 8 → w j = v j) (h : iR v) : iR w := fun t ht => by rw [e t (by omega), e (4 + t) (by omega)]; exact h t ht
theorem iS_co {v w : V} (e : ∀ j, 8 ≤ j → j < 13 → w j = v j) (h : iS v) : iS w := by
  unfold iS
  rw [e 8 (by omega) (by omega), e 9 (by omega) (by omega), e 10 (by omega) (by omega), e 11 (by omega) (by omega), e 12 (by omega) (by omega)]
  exact h
theorem iA_co {v w : V} {B C : Int} (hB : B ≤ C) (e : ∀ j, 145 ≤ j → j < 160 → j ≠ 151 → w j = v j) (h1 : 0 ≤ (w 151).toInt ∧ (w 151).toInt ≤ 12 * C) (h : iA B v) : iA C w := by
  unfold iA at h ⊢
  rw [e 145 (by omega) (by omega) (by omega), e 146 (by omega) (by omega) (by omega), e 147 (by omega) (by omega) (by omega), e 148 (by omega) (by omega) (by omega), e 149 (by omega) (by omega) (by omega), e 150 (by omega) (by omega) (by omega), e 152 (by omega) (by omega) (by omega), e 153 (by omega) (by omega) (by omega), e 154 (by omega) (by omega) (by omega), e 155 (by omega) (by omega) (by omega), e 156 (by omega) (by omega) (by omega), e 157 (by omega) (by omega) (by omega), e 158 (by omega) (by omega) (by omega), e 159 (by omega) (by omega) (by omega)]
  obtain ⟨⟨a1, a2, a3, a4⟩, ⟨b1, b2, b3⟩, c, d, f⟩ := h
  exact ⟨⟨a1, a2, a3, by omega⟩, ⟨b1, b2, by omega⟩, c, h1, f⟩
theorem iP_co {v w : V} {s : Nat} (h0 : ¬ w (13 + 11 * s + 0) = 0 → ¬ v (13 + 11 * s + 0) = 0) (e : ∀ f, f < 11 → f ≠ 0 → f ≠ 8 → w (13 + 11 * s + f) = v (13 + 11 * s + f)) (hq : (v 145).toInt ≤ (w 145).toInt) (h : iP v s) : iP w s := by
  intro k
  obtain ⟨a1, a2, a3, a4, ⟨b1, b2, b3⟩, ⟨c1, c2⟩, d⟩ := h (h0 k)
  rw [e 1 (by omega) (by omega) (by omega), e 2 (by omega) (by omega) (by omega), e 3 (by omega) (by omega) (by omega), e 4 (by omega) (by omega) (by omega), e 5 (by omega) (by omega) (by omega), e 6 (by omega) (by omega) (by omega), e 7 (by omega) (by omega) (by omega), e 9 (by omega) (by omega) (by omega), e 10 (by omega) (by omega) (by omega)]
  exact ⟨a1, a2, a3, a4, ⟨b1, b2, by omega⟩, ⟨c1, by omega⟩, d⟩
theorem iR_u {v : V} {i : Nat} {x : Int32} (hi : 8 ≤ i) (h : iR v) : iR (upd v i x) := iR_co (fun j hj => zu_n _ _ (by omega)) h
theorem iS_u {v : V} {i : Nat} {x : Int32} (hi : i < 8 ∨ 13 ≤ i) (h : iS v) : iS (upd v i x) := iS_co (fun j h1 h2 => zu_n _ _ (by omega)) h
theorem iA_u {v : V} {i : Nat} {x : Int32} {B C : Int} (hB : B ≤ C) (hi : i < 145 ∨ 160 ≤ i) (h : iA B v) : iA C (upd v i x) :=
  iA_co hB (fun j h1 h2 h3 => zu_n _ _ (by omega)) (by rw [zu_n _ _ (by omega)]; have := h.2.2.2.1; omega) h
/-- a slot that no plan speaks of -/
theorem iP_u {v : V} {i s : Nat} {x : Int32} (hi : i < 13 ∨ 146 ≤ i) (hs : s < 12) (h : iP v s) : iP (upd v i x) s :=
  iP_co (fun q => by rw [zu_n _ _ (by omega)] at q; exact q) (fun f hf _ _ => zu_n _ _ (by omega)) (by rw [zu_n _ _ (by omega)]; exact Int.le_refl _) h
theorem zFl_u {v : V} {i : Nat} {x : Int32} (hi : i < 13 ∨ 145 ≤ i) (h : zFl v) : zFl (upd v i x) := zFl_co (fun j h1 h2 => zu_n _ _ (by omega)) h
theorem zZ_u {v : V} {i : Nat} {x : Int32} (hi : i < 160) (h : ∀ j, 160 ≤ j → v j = 0) : ∀ j, 160 ≤ j → upd v i x j = 0 := fun j hj => by rw [zu_n _ _ (by omega)]; exact h j hj
theorem zInv_mono {B C : Int} {v : V} (hB : B ≤ C) (h : zInv B v) : zInv C v := by
  obtain ⟨q, a⟩ := h
  exact ⟨q, iA_co hB (fun _ _ _ _ => rfl) (by have := a.2.2.2.1; omega) a⟩
/-- rows and keys -/
theorem zInv_size {B : Int} {v : V} {q : Nat} {x many : Int32} (hq : q < 4) (hm : ¬ many < (if x = 0 then 0 else 1)) (h9 : ¬ 9999 < many) (h : zInv B v) : zInv (B + 1) (fResize v q x many) := by
  obtain ⟨⟨f, r, s, p, z⟩, a⟩ := h
  rw [t_i, show (9999 : Int32).toInt = 9999 by decide] at h9
  unfold fResize
  by_cases hx : x = 0
  · rw [if_pos hx] at hm ⊢
    rw [t_i, t_0] at hm
    refine ⟨⟨zFl_u (by omega) f, fun t ht => ?_, iS_u (by omega) s, fun t ht => iP_u (by omega) ht (p t ht), zZ_u (by omega) z⟩, iA_u (by omega) (by omega) a⟩
    rw [zu_n v _ (show 4 + t ≠ q by omega)]
    by_cases e : t = q
    · subst e
      rw [zu_s]
      exact ⟨⟨by omega, by omega⟩, (r t ht).2⟩
    · rw [zu_n _ _ e]; exact r t ht
  · rw [if_neg hx] at hm ⊢
    rw [t_i, t_1] at hm
    refine ⟨⟨zFl_u (by omega) f, fun t ht => ?_, iS_u (by omega) s, fun t ht => iP_u (by omega) ht (p t ht), zZ_u (by omega) z⟩, iA_u (by omega) (by omega) a⟩
    rw [zu_n v _ (show t ≠ 4 + q by omega)]
    by_cases e : t = q
    · subst e
      rw [zu_s]
      exact ⟨(r t ht).1, by omega, by omega⟩
    · rw [zu_n _ _ (show 4 + t ≠ 4 + q by omega)]; exact r t ht
/-- a pin -/
theorem zInv_pin {B : Int} {v : V} {q : Nat} {b : Int32} (hq : q < 12) (hb : b = 0 ∨ b = 1) (h : zInv B v) : zInv (B + 1) (upd v (13 + 11 * q + 8) b) := by
  obtain ⟨⟨f, r, s, p, z⟩, a⟩ := h
  refine ⟨⟨fun t ht => ?_, iR_u (by omega) r, iS_u (by omega) s, fun t ht => ?_, zZ_u (by omega) z⟩, iA_u (by omega) (by omega) a⟩
  · rw [zu_n v _ (show 13 + 11 * t + 0 ≠ 13 + 11 * q + 8 by omega)]
    refine ⟨(f t ht).1, ?_⟩
    by_cases e : t = q
    · subst e; rw [zu_s]; exact hb
    · rw [zu_n _ _ (by omega)]; exact (f t ht).2
  · exact iP_co (fun q => by rw [zu_n _ _ (by omega)] at q; exact q) (fun f hf h0 h8 => zu_n _ _ (by omega)) (by rw [zu_n _ _ (by omega)]; exact Int.le_refl _) (p t ht)
/-- a plan is thrown out -/
theorem zInv_off {B : Int} {v : V} {q : Nat} (hq : q < 12) (h : zInv B v) : zInv (B + 1) (upd v (13 + 11 * q + 0) 0) := by
  obtain ⟨⟨f, r, s, p, z⟩, a⟩ := h
  refine ⟨⟨fun t ht => ?_, iR_u (by omega) r, iS_u (by omega) s, fun t ht => ?_, zZ_u (by omega) z⟩, iA_u (by omega) (by omega) a⟩
  · rw [zu_n v _ (show 13 + 11 * t + 8 ≠ 13 + 11 * q + 0 by omega)]
    refine ⟨?_, (f t ht).2⟩
    by_cases e : t = q
    · subst e; rw [zu_s]; exact Or.inl rfl
    · rw [zu_n _ _ (by omega)]; exact (f t ht).1
  · exact iP_co (fun k => by
      by_cases e : t = q
      · subst e; rw [zu_s] at k; exact absurd rfl k
      · rw [zu_n _ _ (by omega)] at k; exact k) (fun f hf h0 h8 => zu_n _ _ (by omega)) (by rw [zu_n _ _ (by omega)]; exact Int.le_refl _) (p t ht)
/-- what a crowd-out may do -/
def zLs (n : Nat) (v w : V) : Prop := (∀ j, j ≠ 151 → (∀ t, t < 12 → j ≠ 13 + 11 * t + 0) → w j = v j) ∧ (∀ t, t < 12 → w (13 + 11 * t + 0) = v (13 + 11 * t + 0) ∨ w (13 + 11 * t + 0) = 0) ∧ (v 151).toInt ≤ (w 151).toInt ∧ (w 151).toInt ≤ (v 151).toInt + n
theorem zLs_kill {v : V} {S : Nat} (hS : S < 12) (h1 : (v 151).toInt < 2000000000) : zLs 1 v (fKill v S) ∧ (fKill v S 151).toInt = (v 151).toInt + 1 := by
  have e : (fKill v S 151).toInt = (v 151).toInt + 1 := by
    unfold fKill
    have := (v 151).le_toInt
    rw [zu_s, t_add (by rw [t_1]; omega) (by rw [t_1]; omega), t_1]
  refine ⟨⟨fun j h1 h2 => fKill_o h1 (h2 S hS), fun t ht => ?_, by omega, by omega⟩, e⟩
  by_cases q : t = S
  · subst q
    refine Or.inr ?_
    unfold fKill
    rw [zu_n _ _ (by omega), zu_s]
  · exact Or.inl (fKill_o (by omega) (by omega))
theorem zLs_crowd : ∀ (n : Nat) (v : V), (v 151).toInt + n < 2000000000 → zLs n v (fCrowd n v)
  | 0, v, _ => ⟨fun _ _ _ => rfl, fun _ _ => Or.inl rfl, Int.le_refl _, by show (v 151).toInt ≤ (v 151).toInt + ((0 : Nat) : Int); omega⟩
  | n + 1, v, h => by
    rw [fCrowd]
    by_cases q : fOldest v < 0
    · rw [if_pos q]
      exact ⟨fun _ _ _ => rfl, fun _ _ => Or.inl rfl, Int.le_refl _, by omega⟩
    · rw [if_neg q]
      obtain ⟨S, hS, eS, -⟩ := fOldest_nat q
      rw [eS, nI_clamp (by omega)]
      obtain ⟨⟨a1, a2, a3, a4⟩, e⟩ := zLs_kill (v := v) hS (by omega)
      obtain ⟨b1, b2, b3, b4⟩ := zLs_crowd n (fKill v S) (by omega)
      refine ⟨fun j h1 h2 => (b1 j h1 h2).trans (a1 j h1 h2), fun t ht => ?_, by omega, by omega⟩
      rcases b2 t ht with k | k
      · rw [k]; exact a2 t ht
      · exact Or.inr k
theorem zFl_crowd : ∀ (n : Nat) (v : V), zFl v → zFl (fCrowd n v)
  | 0, _, h => h
  | n + 1, v, h => by
    rw [fCrowd]
    split
    · exact h
    · exact zFl_crowd n _ (zFl_kill h)
/-- all that stands behind a crowd-out: but for the number of those thrown out -/
theorem zLs_pl {n : Nat} {v w : V} (hl : zLs n v w) (hf : zFl w) (h : zPl v) : zPl w := by
  obtain ⟨f, r, s, p, z⟩ := h
  obtain ⟨l1, l2, l3, l4⟩ := hl
  refine ⟨hf, iR_co (fun j hj => l1 j (by omega) (fun t ht => by omega)) r, iS_co (fun j h1 h2 => l1 j (by omega) (fun t ht => by omega)) s, fun t ht => ?_, fun j hj => (l1 j (by omega) (fun t ht => by omega)).trans (z j hj)⟩
  refine iP_co (fun k => ?_) (fun f hf h0 h8 => l1 _ (by omega) (fun t2 ht2 => by omega)) (by rw [l1 145 (by omega) (fun t ht => by omega)]; exact Int.le_refl _) (p t ht)
  rcases l2 t ht with e | e
  · rw [e] at k; exact k
  · exact absurd e k
theorem zLs_iA {B C : Int} {n : Nat} {v w : V} (hl : zLs n v w) (hC : B ≤ C) (hn : (v 151).toInt + n ≤ 12 * C) (a : iA B v) : iA C w := by
  obtain ⟨l1, l2, l3, l4⟩ := hl
  have h9 := a.2.2.2.1
  exact iA_co hC (fun j h1 h2 h3 => l1 j h3 (fun t ht => by omega)) (by omega) a
theorem fDown_ls {v : V} {most : Int32} (hm : 0 ≤ most.toInt ∧ most.toInt ≤ 12) (h9 : (v 151).toInt < 1000000000) : ∃ n, n ≤ 12 ∧ fDown v most = fCrowd n v ∧ zLs n v (fDown v most) := by
  obtain ⟨k, hk, ek⟩ := fK_nat (v := v) 12
  obtain ⟨m, hm2, em, -⟩ := t_of (N := 12) hm.1 (by omega)
  have e : (fK v 12 - most).toNatClampNeg ≤ 12 := by
    rw [ek, em]
    show (nI k - nI m).toInt.toNat ≤ 12
    rw [pk_sub_toInt (by omega) (by omega)]
    omega
  refine ⟨_, e, rfl, zLs_crowd _ v (by omega)⟩
theorem fRoom_ls {v : V} {s : Nat} (hs : iS v) (h9 : (v 151).toInt < 1000000000) : ∃ n, n ≤ 12 ∧ fRoom v s = fCrowd n v ∧ zLs n v (fRoom v s) := by
  unfold fRoom
  by_cases q : fLacks v s = true
  · rw [if_pos q]
    have h1 := hs.2.2.2.1
    exact fDown_ls (by rw [t_sub (by rw [t_1]; omega) (by rw [t_1]; omega), t_1]; omega) h9
  · rw [if_neg q]
    exact ⟨0, by omega, rfl, fun _ _ _ => rfl, fun _ _ => Or.inl rfl, Int.le_refl _, by omega⟩
theorem fCost_ok {v : V} {s : Nat} {w n : Int32} (h : iR v) (hs : s < 12) (hn : 0 ≤ n.toInt ∧ n.toInt ≤ 9999) : 0 ≤ (fCost v s w n).toInt ∧ (fCost v s w n).toInt ≤ 1000000 := by
  obtain ⟨h1, h2, h3⟩ := h (s / 3) (by omega)
  obtain ⟨a, ha, ea, -⟩ := t_of (N := 9999) h1.1 (by omega)
  obtain ⟨b, hb, eb, fb⟩ := t_of (x := v (4 + s / 3)) (N := 9999) (by omega) (by omega)
  obtain ⟨m, hm, rfl, -⟩ := t_of (N := 9999) hn.1 (by omega)
  exact fCost_bd ha (by omega) hb hm ea eb
theorem fCost_r {u v : V} {s : Nat} {w n : Int32} (h : ¬ s % 3 = 1) (e : u (s / 3) = v (s / 3)) : fCost u s w n = fCost v s w n := by
  unfold fCost fRaw fMet
  simp only [if_neg h, e]
theorem fPlace_n {v : V} {s j : Nat} {w n a b : Int32} (h : j < 13 + 11 * s ∨ 13 + 11 * s + 11 ≤ j) : fPlace v s w n a b j = v j := by
  unfold fPlace
  rw [zu_n _ _ (by omega), zu_n _ _ (by omega), zu_n _ _ (by omega), zu_n _ _ (by omega), zu_n _ _ (by omega), zu_n _ _ (by omega), zu_n _ _ (by omega), zu_n _ _ (by omega), zu_n _ _ (by omega), zu_n _ _ (by omega), zu_n _ _ (by omega)]
theorem fPlace_s {v : V} {s : Nat} {w n a b : Int32} : fPlace v s w n a b (13 + 11 * s + 0) = 1 ∧ fPlace v s w n a b (13 + 11 * s + 1) = w ∧ fPlace v s w n a b (13 + 11 * s + 2) = a ∧ fPlace v s w n a b (13 + 11 * s + 3) = b ∧ fPlace v s w n a b (13 + 11 * s + 4) = n ∧ fPlace v s w n a b (13 + 11 * s + 5) = fCost v s w n ∧ fPlace v s w n a b (13 + 11 * s + 6) = v 145 ∧ fPlace v s w n a b (13 + 11 * s + 7) = v 145 ∧ fPlace v s w n a b (13 + 11 * s + 8) = 0 ∧ fPlace v s w n a b (13 + 11 * s + 9) = 0 ∧ fPlace v s w n a b (13 + 11 * s + 10) = v (s / 3) := by
  unfold fPlace
  refine ⟨?_, ?_, ?_, ?_, ?_, ?_, ?_, ?_, ?_, ?_, ?_⟩ <;> simp [upd]
theorem zPl_place {v : V} {q : Nat} {w n lo hi : Int32} (hq : q < 12) (hw : w = 0 ∨ w = 1 ∨ w = 2) (hn : (if q % 3 = 0 then 0 else 1) ≤ n.toInt ∧ n.toInt ≤ 9999) (hb : lo.toInt ≤ hi.toInt) (h5 : 0 ≤ (v 145).toInt) (h : zPl v) : zPl (fPlace v q w n lo hi) := by
  obtain ⟨f, r, s, p, z⟩ := h
  obtain ⟨e0, e1, e2, e3, e4, e5, e6, e7, e8, e9, e10⟩ := fPlace_s (v := v) (s := q) (w := w) (n := n) (a := lo) (b := hi)
  have eq : fPlace v q w n lo hi 145 = v 145 := fPlace_n (by omega)
  have hr := r (q / 3) (by omega)
  refine ⟨fun t ht => ?_, iR_co (fun j hj => fPlace_n (by omega)) r, iS_co (fun j h1 h2 => fPlace_n (by omega)) s, fun t ht => ?_, fun j hj => (fPlace_n (by omega)).trans (z j hj)⟩
  · by_cases e : t = q
    · subst e
      rw [e0, e8]
      exact ⟨Or.inr rfl, Or.inl rfl⟩
    · rw [fPlace_n (by omega), fPlace_n (by omega)]; exact f t ht
  · by_cases e : t = q
    · subst e
      intro k
      rw [e1, e2, e3, e4, e5, e6, e7, e9, e10, eq]
      exact ⟨hw, hb, hn, hr.1, ⟨h5, Int.le_refl _, Int.le_refl _⟩, ⟨by decide, by rw [t_0]; omega⟩, fun h3 u hu => (fCost_r h3 hu).symm⟩
    · exact iP_co (fun k => by rw [fPlace_n (by omega)] at k; exact k) (fun f hf _ _ => fPlace_n (by omega)) (by rw [eq]; exact Int.le_refl _) (p t ht)
theorem iA_place {B C : Int} {v : V} {q : Nat} {w n lo hi : Int32} (hq : q < 12) (hB : B ≤ C) (a : iA B v) : iA C (fPlace v q w n lo hi) :=
  iA_co hB (fun j h1 h2 h3 => fPlace_n (by omega)) (by rw [fPlace_n (by omega)]; have := a.2.2.2.1; omega) a
theorem zPl_room {v : V} {q : Nat} (h9 : (v 151).toInt < 1000000000) (h : zPl v) : zPl (fRoom v q) := by
  obtain ⟨n, hn, e, hl⟩ := fRoom_ls (s := q) h.2.2.1 h9
  exact zLs_pl hl (by rw [e]; exact zFl_crowd _ _ h.1) h
theorem zInv_room {B : Int} {v : V} {q : Nat} (hC : B ≤ 1000) (h : zInv B v) : zInv (B + 1) (fRoom v q) := by
  have h9 := h.2.2.2.2.1
  obtain ⟨n, hn, e, hl⟩ := fRoom_ls (s := q) h.1.2.2.1 (by omega)
  exact ⟨zPl_room (by omega) h.1, zLs_iA hl (by omega) (by omega) h.2⟩
