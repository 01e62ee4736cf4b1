/-! each act keeps it -/
/-- what an act answers and leaves: a number and a good row, or something below 0 and nothing -/
def zStep (B : Int) (q : Int32 × Option V) : Prop := match q.2 with
  | none => q.1 < 0
  | some w => ¬ q.1 < 0 ∧ zInv (B + 1) w
theorem zStep_n {B : Int} {r : Int32} (h : r < 0) : zStep B (r, none) := h
theorem zStep_s {B : Int} {r : Int32} {w : V} (h : ¬ r < 0) (h2 : zInv (B + 1) w) : zStep B (r, some w) := ⟨h, h2⟩
theorem t_nn {x : Int32} (h : 0 ≤ x.toInt) : ¬ x < 0 := fun q => by rw [t_i, t_0] at q; omega
theorem fK_nn {v : V} {n : Nat} (hn : n ≤ 12) : ¬ fK v n < 0 := by
  obtain ⟨k, hk, e⟩ := fK_nat (v := v) n
  rw [e]
  exact nI_pos (by omega)
theorem fP_nn {v : V} : ¬ fP v 12 < 0 := by
  obtain ⟨k, q, h1, h2, -, e⟩ := fP_le (v := v) 12 (by omega)
  rw [e]
  exact nI_pos (by omega)
theorem kTable_st {B : Int} {v : V} {q x many : Int32} (h : zInv B v) : zStep B (kTable v q x many) := by
  unfold kTable
  by_cases a : okT q
  · rw [if_pos a]
    obtain ⟨z, hz, rfl⟩ := zIx (B := 4) (b := 4) rfl (by decide) a
    rw [iNn (by omega)]
    by_cases b : many < (if x = 0 then 0 else 1)
    · rw [if_pos b]; exact zStep_n (by decide)
    · rw [if_neg b]
      by_cases c : 9999 < many
      · rw [if_pos c]; exact zStep_n (by decide)
      · rw [if_neg c]
        by_cases d : (if x = 0 then v z else v (4 + z)) = many
        · rw [if_pos d]; exact zStep_n (by decide)
        · rw [if_neg d]
          refine zStep_s ?_ (zInv_size hz b c h)
          obtain ⟨r1, r2⟩ := h.1.2.1 z hz
          split
          · exact t_nn r1.1
          · exact t_nn (by omega)
  · rw [if_neg a]; exact zStep_n (by decide)
theorem kPin_st {B : Int} {v : V} {x b : Int32} (hb : b = 0 ∨ b = 1) (h : zInv B v) : zStep B (kPin v x b) := by
  unfold kPin
  by_cases a : hasP v x
  · rw [if_pos a]
    obtain ⟨z, hz, rfl⟩ := zIx (B := 12) (b := 12) rfl (by decide) a.1
    rw [iNn (by omega)]
    by_cases d : v (13 + 11 * z + 8) = b
    · rw [if_pos d]; exact zStep_n (by decide)
    · rw [if_neg d]; exact zStep_s fP_nn (zInv_pin hz hb h)
  · rw [if_neg a]; exact zStep_n (by decide)
theorem kThrow_st {B : Int} {v : V} {x : Int32} (h : zInv B v) : zStep B (kThrow v x) := by
  unfold kThrow
  by_cases a : hasP v x
  · rw [if_pos a]
    obtain ⟨z, hz, rfl⟩ := zIx (B := 12) (b := 12) rfl (by decide) a.1
    rw [iNn (by omega)]
    exact zStep_s (fK_nn (by omega)) (zInv_off hz h)
  · rw [if_neg a]; exact zStep_n (by decide)
theorem okN_t {z : Nat} {n : Int32} (h : okN z n) : (if z % 3 = 0 then 0 else 1) ≤ n.toInt ∧ n.toInt ≤ 9999 := by
  obtain ⟨h1, h2⟩ := h
  rw [t_i, show (9999 : Int32).toInt = 9999 by decide] at h2
  refine ⟨?_, by omega⟩
  by_cases q : z % 3 = 0
  · rw [if_pos q] at h1 ⊢
    rw [t_i, t_0] at h1
    omega
  · rw [if_neg q] at h1 ⊢
    rw [t_i, t_1] at h1
    omega
theorem okN_0 {z : Nat} {n : Int32} (h : okN z n) : 0 ≤ n.toInt ∧ n.toInt ≤ 9999 := by
  obtain ⟨h1, h2⟩ := okN_t h
  refine ⟨?_, h2⟩
  split at h1 <;> omega
theorem okW_3 {w : Int32} (h : okW w) : w = 0 ∨ w = 1 ∨ w = 2 := by
  obtain ⟨z, hz, rfl⟩ := zIx (B := 3) (b := 3) rfl (by decide) h
  rcases (show z = 0 ∨ z = 1 ∨ z = 2 by omega) with rfl | rfl | rfl
  · exact Or.inl rfl
  · exact Or.inr (Or.inl rfl)
  · exact Or.inr (Or.inr rfl)
theorem iA_145 {B : Int} {v : V} (h : iA B v) : 0 ≤ (v 145).toInt := by
  have := h.1
  omega
theorem kMake_st {B : Int} {v : V} {x w n lo hi : Int32} (hB : B ≤ 1000) (h : zInv B v) : zStep B (kMake v x w n lo hi) := by
  unfold kMake kMakeV
  by_cases a : okS x
  · rw [if_pos a]
    obtain ⟨z, hz, rfl⟩ := zIx (B := 12) (b := 12) rfl (by decide) a
    rw [iNn (by omega)]
    by_cases b : okW w
    · rw [if_pos b]
      by_cases c : okN z n
      · rw [if_pos c]
        by_cases d1 : lo < 0
        · rw [if_pos d1]; exact zStep_n (by decide)
        · rw [if_neg d1]
          by_cases d2 : 9999 < lo
          · rw [if_pos d2]; exact zStep_n (by decide)
          · rw [if_neg d2]
            by_cases d3 : hi < lo
            · rw [if_pos d3]; exact zStep_n (by decide)
            · rw [if_neg d3]
              by_cases d4 : 99999 < hi
              · rw [if_pos d4]; exact zStep_n (by decide)
              · rw [if_neg d4]
                by_cases d5 : fCould v z = true
                · rw [if_pos d5]
                  have hr := zInv_room (q := z) hB h
                  refine zStep_s (fK_nn (by omega)) ⟨zPl_place hz (okW_3 b) (okN_t c) ?_ (iA_145 hr.2) hr.1, iA_place hz (Int.le_refl _) hr.2⟩
                  rw [t_i] at d3
                  omega
                · rw [if_neg d5]; exact zStep_n (by decide)
      · rw [if_neg c]; exact zStep_n (by decide)
    · rw [if_neg b]; exact zStep_n (by decide)
  · rw [if_neg a]; exact zStep_n (by decide)
theorem zPl_set {v : V} {i : Nat} {x : Int32} (hi : i < 5) (h1 : ¬ x < zLe i) (h2 : ¬ zMo i < x) (h : zPl v) : zPl (upd v (8 + i) x) := by
  obtain ⟨f, r, s, p, z⟩ := h
  refine ⟨zFl_u (by omega) f, iR_u (by omega) r, ?_, fun t ht => iP_u (by omega) ht (p t ht), zZ_u (by omega) z⟩
  rw [t_i] at h1 h2
  unfold iS at s ⊢
  rcases (show i = 0 ∨ i = 1 ∨ i = 2 ∨ i = 3 ∨ i = 4 by omega) with rfl | rfl | rfl | rfl | rfl
  · rw [show (zLe 0).toInt = 0 by decide] at h1
    rw [show (zMo 0).toInt = 999 by decide] at h2
    rw [zu_s, zu_n _ _ (by omega), zu_n _ _ (by omega), zu_n _ _ (by omega), zu_n _ _ (by omega)]
    omega
  · rw [show (zLe 1).toInt = 1 by decide] at h1
    rw [show (zMo 1).toInt = 20 by decide] at h2
    rw [zu_s, zu_n v _ (show 8 ≠ 8 + 1 by omega), zu_n _ _ (by omega), zu_n _ _ (by omega), zu_n _ _ (by omega)]
    omega
  · rw [show (zLe 2).toInt = 1 by decide] at h1
    rw [show (zMo 2).toInt = 999 by decide] at h2
    rw [zu_s, zu_n v _ (show 8 ≠ 8 + 2 by omega), zu_n v _ (show 9 ≠ 8 + 2 by omega), zu_n _ _ (by omega), zu_n _ _ (by omega)]
    omega
  · rw [show (zLe 3).toInt = 1 by decide] at h1
    rw [show (zMo 3).toInt = 12 by decide] at h2
    rw [zu_s, zu_n v _ (show 8 ≠ 8 + 3 by omega), zu_n v _ (show 9 ≠ 8 + 3 by omega), zu_n v _ (show 10 ≠ 8 + 3 by omega), zu_n _ _ (by omega)]
    omega
  · rw [show (zLe 4).toInt = 1 by decide] at h1
    rw [show (zMo 4).toInt = 20 by decide] at h2
    rw [zu_s, zu_n v _ (show 8 ≠ 8 + 4 by omega), zu_n v _ (show 9 ≠ 8 + 4 by omega), zu_n v _ (show 10 ≠ 8 + 4 by omega), zu_n v _ (show 11 ≠ 8 + 4 by omega)]
    omega
theorem iS_nn {v : V} {i : Nat} (hi : i < 5) (s : iS v) : ¬ v (8 + i) < 0 := by
  unfold iS at s
  rcases (show i = 0 ∨ i = 1 ∨ i = 2 ∨ i = 3 ∨ i = 4 by omega) with rfl | rfl | rfl | rfl | rfl
  · exact t_nn s.1.1
  · exact t_nn (show 0 ≤ (v 9).toInt by omega)
  · exact t_nn (show 0 ≤ (v 10).toInt by omega)
  · exact t_nn (show 0 ≤ (v 11).toInt by omega)
  · exact t_nn (show 0 ≤ (v 12).toInt by omega)
theorem kSet_st {B : Int} {v : V} {i x : Int32} (hB : B ≤ 1000) (h : zInv B v) : zStep B (kSet v i x) := by
  unfold kSet
  by_cases a : i < 0
  · rw [if_pos a]; exact zStep_n (by decide)
  · rw [if_neg a]
    by_cases b : ¬ i < 5
    · rw [if_pos b]; exact zStep_n (by decide)
    · rw [if_neg b]
      obtain ⟨z, hz, rfl⟩ := zIx (B := 5) (b := 5) rfl (by decide) ⟨a, Classical.not_not.mp b⟩
      rw [iNn (by omega)]
      by_cases c : x < zLe z
      · rw [if_pos c]; exact zStep_n (by decide)
      · rw [if_neg c]
        by_cases d : zMo z < x
        · rw [if_pos d]; exact zStep_n (by decide)
        · rw [if_neg d]
          by_cases e : v (8 + z) = x
          · rw [if_pos e]; exact zStep_n (by decide)
          · rw [if_neg e]
            have hs : zPl (upd v (8 + z) x) := zPl_set hz c d h.1
            have ha : iA (B + 1) (upd v (8 + z) x) := iA_u (by omega) (by omega) h.2
            by_cases f : z = 3
            · rw [if_pos f]
              have h9 := h.2.2.2.2.1
              have e9 : upd v (8 + z) x 151 = v 151 := zu_n _ _ (by omega)
              have hx := hs.2.2.1.2.2.2.1
              rw [f] at hx
              rw [show upd v (8 + 3) x 11 = x from zu_s _ _ _] at hx
              obtain ⟨n, hn, e1, hl⟩ := fDown_ls (v := upd v (8 + z) x) (most := x) (by omega) (by rw [e9]; omega)
              exact zStep_s (iS_nn hz h.1.2.2.1) ⟨zLs_pl hl (by rw [e1]; exact zFl_crowd _ _ hs.1) hs, zLs_iA hl (Int.le_refl _) (by rw [e9]; omega) ha⟩
            · rw [if_neg f]; exact zStep_s (iS_nn hz h.1.2.2.1) ⟨hs, ha⟩
theorem s4a {a b c d x : Int32} : 0 + (a + x) + b + c + d = 0 + a + b + c + d + x := by ac_rfl
theorem s4b {a b c d x : Int32} : 0 + a + (b + x) + c + d = 0 + a + b + c + d + x := by ac_rfl
theorem s4c {a b c d x : Int32} : 0 + a + b + (c + x) + d = 0 + a + b + c + d + x := by ac_rfl
theorem s4d {a b c d x : Int32} : 0 + a + b + c + (d + x) = 0 + a + b + c + d + x := by ac_rfl
/-- a question's accounts at its end -/
def fEnd (m : V) (z : Nat) (r : Int32) : V := upd (upd (upd m 148 (m 148 + r)) (152 + z / 3) (m (152 + z / 3) + 1)) (156 + z / 3) (m (156 + z / 3) + r)
theorem fEnd_o {m : V} {z j : Nat} {r : Int32} (hz : z < 12) (h : j < 148 ∨ (149 ≤ j ∧ j < 152) ∨ 160 ≤ j) : fEnd m z r j = m j := by
  unfold fEnd
  rw [zu_n _ _ (by omega), zu_n _ _ (by omega), zu_n _ _ (by omega)]
theorem fEnd_148 {m : V} {z : Nat} {r : Int32} (hz : z < 12) : fEnd m z r 148 = m 148 + r := by
  unfold fEnd
  rw [zu_n _ _ (by omega), zu_n _ _ (by omega), zu_s]
theorem fEnd_sum {m v : V} {z : Nat} {r : Int32} (hz : z < 12) (e : (m 152 = v 152 ∧ m 153 = v 153 ∧ m 154 = v 154 ∧ m 155 = v 155) ∧ m 156 = v 156 ∧ m 157 = v 157 ∧ m 158 = v 158 ∧ m 159 = v 159) :
    0 + fEnd m z r 152 + fEnd m z r 153 + fEnd m z r 154 + fEnd m z r 155 = 0 + v 152 + v 153 + v 154 + v 155 + 1 ∧ 0 + fEnd m z r 156 + fEnd m z r 157 + fEnd m z r 158 + fEnd m z r 159 = 0 + v 156 + v 157 + v 158 + v 159 + r := by
  obtain ⟨⟨e0, e1, e2, e3⟩, e4, e5, e6, e7⟩ := e
  have f : ∀ j, fEnd m z r j = if j = 156 + z / 3 then m (156 + z / 3) + r else if j = 152 + z / 3 then m (152 + z / 3) + 1 else if j = 148 then m 148 + r else m j := fun _ => rfl
  rcases (show z / 3 = 0 ∨ z / 3 = 1 ∨ z / 3 = 2 ∨ z / 3 = 3 by omega) with h | h | h | h
  · have F : fEnd m z r 152 = v 152 + 1 ∧ fEnd m z r 153 = v 153 ∧ fEnd m z r 154 = v 154 ∧ fEnd m z r 155 = v 155 ∧ fEnd m z r 156 = v 156 + r ∧ fEnd m z r 157 = v 157 ∧ fEnd m z r 158 = v 158 ∧ fEnd m z r 159 = v 159 := by
      refine ⟨?_, ?_, ?_, ?_, ?_, ?_, ?_, ?_⟩ <;> rw [f, h] <;> simp [e0, e1, e2, e3, e4, e5, e6, e7]
    obtain ⟨f0, f1, f2, f3, f4, f5, f6, f7⟩ := F
    rw [f0, f1, f2, f3, f4, f5, f6, f7]
    exact ⟨s4a, s4a⟩
  · have F : fEnd m z r 152 = v 152 ∧ fEnd m z r 153 = v 153 + 1 ∧ fEnd m z r 154 = v 154 ∧ fEnd m z r 155 = v 155 ∧ fEnd m z r 156 = v 156 ∧ fEnd m z r 157 = v 157 + r ∧ fEnd m z r 158 = v 158 ∧ fEnd m z r 159 = v 159 := by
      refine ⟨?_, ?_, ?_, ?_, ?_, ?_, ?_, ?_⟩ <;> rw [f, h] <;> simp [e0, e1, e2, e3, e4, e5, e6, e7]
    obtain ⟨f0, f1, f2, f3, f4, f5, f6, f7⟩ := F
    rw [f0, f1, f2, f3, f4, f5, f6, f7]
    exact ⟨s4b, s4b⟩
  · have F : fEnd m z r 152 = v 152 ∧ fEnd m z r 153 = v 153 ∧ fEnd m z r 154 = v 154 + 1 ∧ fEnd m z r 155 = v 155 ∧ fEnd m z r 156 = v 156 ∧ fEnd m z r 157 = v 157 ∧ fEnd m z r 158 = v 158 + r ∧ fEnd m z r 159 = v 159 := by
      refine ⟨?_, ?_, ?_, ?_, ?_, ?_, ?_, ?_⟩ <;> rw [f, h] <;> simp [e0, e1, e2, e3, e4, e5, e6, e7]
    obtain ⟨f0, f1, f2, f3, f4, f5, f6, f7⟩ := F
    rw [f0, f1, f2, f3, f4, f5, f6, f7]
    exact ⟨s4c, s4c⟩
  · have F : fEnd m z r 152 = v 152 ∧ fEnd m z r 153 = v 153 ∧ fEnd m z r 154 = v 154 ∧ fEnd m z r 155 = v 155 + 1 ∧ fEnd m z r 156 = v 156 ∧ fEnd m z r 157 = v 157 ∧ fEnd m z r 158 = v 158 ∧ fEnd m z r 159 = v 159 + r := by
      refine ⟨?_, ?_, ?_, ?_, ?_, ?_, ?_, ?_⟩ <;> rw [f, h] <;> simp [e0, e1, e2, e3, e4, e5, e6, e7]
    obtain ⟨f0, f1, f2, f3, f4, f5, f6, f7⟩ := F
    rw [f0, f1, f2, f3, f4, f5, f6, f7]
    exact ⟨s4d, s4d⟩
theorem zInv_end {B : Int} {v m : V} {z : Nat} {r : Int32} (hz : z < 12) (hB : 0 ≤ B ∧ B ≤ 1000) (hr : 0 ≤ r.toInt ∧ r.toInt ≤ 1001000) (hv : iA B v) (h : zPl m) (e145 : m 145 = v 145 + 1)
    (e146 : 0 ≤ (m 146).toInt ∧ 0 ≤ (m 147).toInt ∧ (m 146).toInt + (m 147).toInt = (v 145).toInt + 1) (e148 : m 148 = v 148) (e149 : 0 ≤ (m 149).toInt ∧ (m 149).toInt ≤ (v 149).toInt + r.toInt)
    (e150 : 0 ≤ (m 150).toInt ∧ (m 150).toInt ≤ (m 146).toInt) (e151 : 0 ≤ (m 151).toInt ∧ (m 151).toInt ≤ 12 * (B + 1))
    (e : (m 152 = v 152 ∧ m 153 = v 153 ∧ m 154 = v 154 ∧ m 155 = v 155) ∧ m 156 = v 156 ∧ m 157 = v 157 ∧ m 158 = v 158 ∧ m 159 = v 159) : zInv (B + 1) (fEnd m z r) := by
  obtain ⟨f, ir, s, p, zz⟩ := h
  obtain ⟨⟨a1, a2, a3, a4⟩, ⟨b1, b2, b3⟩, ⟨c1, c2⟩, d, s1, s2⟩ := hv
  obtain ⟨q1, q2⟩ := fEnd_sum (r := r) hz e
  have g145 : (v 145 + 1).toInt = (v 145).toInt + 1 := by rw [t_add (by rw [t_1]; omega) (by rw [t_1]; omega), t_1]
  have g148 : (v 148 + r).toInt = (v 148).toInt + r.toInt := t_add (by omega) (by omega)
  have O : ∀ {j}, (j < 148 ∨ (149 ≤ j ∧ j < 152) ∨ 160 ≤ j) → fEnd m z r j = m j := fun hj => fEnd_o hz hj
  refine ⟨⟨zFl_co (fun j h1 h2 => O (by omega)) f, iR_co (fun j hj => O (by omega)) ir, iS_co (fun j h1 h2 => O (by omega)) s, fun t ht => iP_co (fun k => by rw [O (by omega)] at k; exact k) (fun f hf _ _ => O (by omega)) (by rw [O (by omega)]; exact Int.le_refl _) (p t ht), fun j hj => (O (by omega)).trans (zz j hj)⟩, ?_⟩
  unfold iA
  rw [q1, q2, s1, s2, O (j := 145) (by omega), O (j := 146) (by omega), O (j := 147) (by omega), O (j := 149) (by omega), O (j := 150) (by omega), O (j := 151) (by omega), fEnd_148 hz, e145, e148, g145, g148]
  exact ⟨⟨e146.1, e146.2.1, e146.2.2, by omega⟩, ⟨e149.1, by omega, by omega⟩, e150, e151, rfl, rfl⟩
