/-! numbers with their ranges -/
theorem bm32 {z : Int} (h1 : -2147483648 ≤ z) (h2 : z < 2147483648) : z.bmod (2 ^ 32) = z := by
  have e : ((2 : Nat) ^ 32) = 4294967296 := by decide
  rw [e, Int.bmod_def]
  split <;> omega
theorem addI {x y : Int32} (h1 : -2147483648 ≤ x.toInt + y.toInt) (h2 : x.toInt + y.toInt < 2147483648) : (x + y).toInt = x.toInt + y.toInt := by
  rw [Int32.toInt_add, bm32 h1 h2]
theorem subI {x y : Int32} (h1 : -2147483648 ≤ x.toInt - y.toInt) (h2 : x.toInt - y.toInt < 2147483648) : (x - y).toInt = x.toInt - y.toInt := by
  rw [Int32.toInt_sub, bm32 h1 h2]
theorem mulI {x y : Int32} (h1 : -2147483648 ≤ x.toInt * y.toInt) (h2 : x.toInt * y.toInt < 2147483648) : (x * y).toInt = x.toInt * y.toInt := by
  rw [Int32.toInt_mul, bm32 h1 h2]
theorem negI {x : Int32} (h1 : -2147483648 < x.toInt) : (-x).toInt = -x.toInt := by
  rw [Int32.toInt_neg, bm32 (by have := x.toInt_lt; omega) (by omega)]
theorem divI {x y : Int32} (h : y ≠ -1) : (x / y).toInt = x.toInt.tdiv y.toInt := Int32.toInt_div_of_ne_right x y h
theorem jminI (x y : Int32) : (jmin x y).toInt = min x.toInt y.toInt := by
  unfold jmin
  split
  · rename_i h; rw [Int32.lt_iff_toInt_lt] at h; omega
  · rename_i h; rw [Int32.lt_iff_toInt_lt] at h; omega
theorem jmaxI (x y : Int32) : (jmax x y).toInt = max x.toInt y.toInt := by
  unfold jmax
  split
  · rename_i h; rw [Int32.lt_iff_toInt_lt] at h; omega
  · rename_i h; rw [Int32.lt_iff_toInt_lt] at h; omega
theorem jabsI {x : Int32} (h1 : -2147483648 < x.toInt) : (jabs x).toInt = if 0 ≤ x.toInt then x.toInt else -x.toInt := by
  unfold jabs
  have h0 : (0 : Int32).toInt = 0 := Int32.toInt_zero
  have hm := x.toInt_lt
  by_cases h : 0 ≤ x
  · rw [if_pos h, if_pos (by rw [Int32.le_iff_toInt_le] at h; omega)]
  · rw [if_neg h, if_neg (by rw [Int32.le_iff_toInt_le] at h; omega), subI (by omega) (by omega)]; omega
theorem mulLe {a b A B : Int} (h1 : 0 ≤ a) (h2 : a ≤ A) (h3 : 0 ≤ b) (h4 : b ≤ B) : 0 ≤ a * b ∧ a * b ≤ A * B := ⟨Int.mul_nonneg h1 h3, Int.mul_le_mul h2 h4 h3 (by omega)⟩
theorem tdivLe {a b : Int} (h1 : 0 ≤ a) (h2 : 0 < b) : 0 ≤ a.tdiv b ∧ a.tdiv b ≤ a := ⟨Int.tdiv_nonneg h1 (by omega), by
  rw [Int.tdiv_eq_ediv_of_nonneg h1]
  exact Int.ediv_le_self _ h1⟩
/-- a house's numbers in their ranges -/
def rgH (f : Nat → Int32) : Prop := (1 ≤ (f 0).toInt ∧ (f 0).toInt ≤ 30) ∧ (10 ≤ (f 1).toInt ∧ (f 1).toInt ≤ 900) ∧ (0 ≤ (f 2).toInt ∧ (f 2).toInt ≤ (f 1).toInt) ∧ (0 ≤ (f 3).toInt ∧ (f 3).toInt ≤ 9) ∧ (0 ≤ (f 4).toInt ∧ (f 4).toInt ≤ 20) ∧ (0 ≤ (f 5).toInt ∧ (f 5).toInt ≤ 10)
theorem upd_s (f : Nat → Int32) (k : Nat) (x : Int32) : upd f k x k = x := by simp [upd]
theorem upd_n (f : Nat → Int32) {k j : Nat} (x : Int32) (h : j ≠ k) : upd f k x j = f j := by simp [upd, h]
theorem rgH.w {f : Nat → Int32} {x : Int32} (h : rgH f) (h1 : 0 ≤ x.toInt) (h2 : x.toInt ≤ (f 1).toInt) : rgH (upd f 2 x) := by
  obtain ⟨a, b, c, d, e, g⟩ := h
  refine ⟨?_, ?_, ?_, ?_, ?_, ?_⟩ <;> simp only [upd] <;> simp <;> omega
theorem rgH.o {f : Nat → Int32} {k : Nat} {x : Int32} (h : rgH f) (hk : 6 ≤ k) : rgH (upd f k x) := by
  unfold rgH
  rw [upd_n _ _ (by omega), upd_n _ _ (by omega), upd_n _ _ (by omega), upd_n _ _ (by omega), upd_n _ _ (by omega), upd_n _ _ (by omega)]
  exact h
theorem rgH.take {f : Nat → Int32} {a : Int32} (h : rgH f) (h1 : 0 ≤ a.toInt) : rgH (takeF f a) ∧ 0 ≤ (tkF f a).toInt ∧ (tkF f a).toInt ≤ a.toInt := by
  obtain ⟨_, b, c, _⟩ := id h
  have e1 : (f 1 - f 2).toInt = (f 1).toInt - (f 2).toInt := subI (by omega) (by omega)
  have e2 : (tkF f a).toInt = min a.toInt ((f 1).toInt - (f 2).toInt) := by unfold tkF; rw [jminI, e1]
  have e3 : (f 2 + tkF f a).toInt = (f 2).toInt + (tkF f a).toInt := addI (by omega) (by omega)
  exact ⟨h.w (by omega) (by omega), by omega, by omega⟩
theorem li_3 : (3 : Int32).toInt = 3 := by decide
theorem li_2 : (2 : Int32).toInt = 2 := by decide
theorem li_10 : (10 : Int32).toInt = 10 := by decide
theorem li_1 : (1 : Int32).toInt = 1 := by decide
theorem li_0 : (0 : Int32).toInt = 0 := by decide
theorem drkI {f : Nat → Int32} (h : rgH f) : (3 * f 3).toInt = 3 * (f 3).toInt ∧ (drkF f).toInt = min (3 * (f 3).toInt) (f 2).toInt := by
  obtain ⟨_, b, c, d, _⟩ := id h
  have e1 : (3 * f 3).toInt = 3 * (f 3).toInt := by rw [mulI (by rw [li_3]; omega) (by rw [li_3]; omega), li_3]
  exact ⟨e1, by unfold drkF; rw [jminI, e1]⟩
theorem rgH.drink {f : Nat → Int32} (h : rgH f) : rgH (drinkF f) := by
  obtain ⟨_, b, c, d, _⟩ := id h
  obtain ⟨e1, e2⟩ := drkI h
  have e3 : (f 2 - drkF f).toInt = (f 2).toInt - (drkF f).toInt := subI (by omega) (by omega)
  exact ((h.w (by omega) (by omega)).o (by omega)).o (by omega)
theorem rgH.gard {f : Nat → Int32} (h : rgH f) : rgH (gardF f) := by
  unfold gardF
  split
  · rename_i hc
    obtain ⟨_, b, c, d, e, _⟩ := id h
    have e1 : (2 * f 2).toInt = 2 * (f 2).toInt := by rw [mulI (by rw [li_2]; omega) (by rw [li_2]; omega), li_2]
    have e2 : (2 * f 2 - f 1).toInt = 2 * (f 2).toInt - (f 1).toInt := by rw [subI (by omega) (by omega), e1]
    rw [Int32.lt_iff_toInt_lt, e2, li_0] at hc
    have e3 : ((2 * f 2 - f 1) / 2).toInt = (2 * (f 2).toInt - (f 1).toInt).tdiv 2 := by rw [divI (by decide), e2, li_2]
    have e4 : (gvnF f).toInt = min (f 4).toInt ((2 * (f 2).toInt - (f 1).toInt).tdiv 2) := by unfold gvnF; rw [jminI, e3]
    have e5 := tdivLe (a := 2 * (f 2).toInt - (f 1).toInt) (b := 2) (by omega) (by decide)
    have e7 : (2 * (f 2).toInt - (f 1).toInt).tdiv 2 ≤ (f 2).toInt := by
      rw [Int.tdiv_eq_ediv_of_nonneg (by omega)]; omega
    have e6 : (f 2 - gvnF f).toInt = (f 2).toInt - (gvnF f).toInt := subI (by omega) (by omega)
    exact (h.w (by omega) (by omega)).o (by omega)
  · exact h
theorem rgH.clog {f : Nat → Int32} {a : Int32} (h : rgH f) (h1 : 0 ≤ a.toInt) (h2 : a.toInt ≤ 3) : rgH (clogF f a) := by
  obtain ⟨a0, b, c, d, e, g⟩ := h
  have e1 : (f 5 + a).toInt = (f 5).toInt + a.toInt := addI (by omega) (by omega)
  have e2 : (jmin 10 (f 5 + a)).toInt = min 10 ((f 5).toInt + a.toInt) := by rw [jminI, e1, li_10]
  unfold clogF
  refine ⟨?_, ?_, ?_, ?_, ?_, ?_⟩
  · rw [upd_n _ _ (by decide)]; exact a0
  · rw [upd_n _ _ (by decide)]; exact b
  · rw [upd_n _ _ (by decide), upd_n _ _ (by decide)]; exact c
  · rw [upd_n _ _ (by decide)]; exact d
  · rw [upd_n _ _ (by decide)]; exact e
  · rw [upd_s]; omega
/-- a pipe's flow in its range -/
theorem flwI {q f1 f2 : Nat → Int32} (h1 : rgH f1) (h2 : rgH f2) (hl : 1 ≤ (q 2).toInt ∧ (q 2).toInt ≤ 50) :
    (f1 2 * f2 1 - f2 2 * f1 1).toInt = (f1 2).toInt * (f2 1).toInt - (f2 2).toInt * (f1 1).toInt ∧ (f1 1 + f2 1).toInt = (f1 1).toInt + (f2 1).toInt ∧
    (flwF q f1 f2).toInt = max (-(q 2).toInt) (min (q 2).toInt (((f1 2).toInt * (f2 1).toInt - (f2 2).toInt * (f1 1).toInt).tdiv ((f1 1).toInt + (f2 1).toInt))) := by
  obtain ⟨_, b1, c1, _⟩ := id h1
  obtain ⟨_, b2, c2, _⟩ := id h2
  have m1 := mulLe (a := (f1 2).toInt) (b := (f2 1).toInt) (A := 900) (B := 900) (by omega) (by omega) (by omega) (by omega)
  have m2 := mulLe (a := (f2 2).toInt) (b := (f1 1).toInt) (A := 900) (B := 900) (by omega) (by omega) (by omega) (by omega)
  have e1 : (f1 2 * f2 1).toInt = (f1 2).toInt * (f2 1).toInt := mulI (by omega) (by omega)
  have e2 : (f2 2 * f1 1).toInt = (f2 2).toInt * (f1 1).toInt := mulI (by omega) (by omega)
  have e3 : (f1 2 * f2 1 - f2 2 * f1 1).toInt = (f1 2).toInt * (f2 1).toInt - (f2 2).toInt * (f1 1).toInt := by rw [subI (by omega) (by omega), e1, e2]
  have e4 : (f1 1 + f2 1).toInt = (f1 1).toInt + (f2 1).toInt := addI (by omega) (by omega)
  refine ⟨e3, e4, ?_⟩
  unfold flwF
  rw [jmaxI, jminI, negI (by omega), divI (fun h => by rw [h] at e4; have : (-1 : Int32).toInt = -1 := by decide
                                                       omega), e3, e4]
/-- the flow is at most what would even both out: so waters stay between 0 and what is held -/
theorem evenLe {w1 k1 w2 k2 : Int} (hw1 : 0 ≤ w1) (hk1 : w1 ≤ k1) (hw2 : 0 ≤ w2) (hk2 : w2 ≤ k2) (hp : 0 < k1 + k2) (t : Int) (ht : t = (w1 * k2 - w2 * k1).tdiv (k1 + k2)) : (0 ≤ t → t ≤ w1 ∧ w2 + t ≤ k2) ∧ (t ≤ 0 → -t ≤ w2 ∧ w1 - t ≤ k1) := by
  have a1 : 0 ≤ w2 * k1 := Int.mul_nonneg hw2 (by omega)
  have a2 : 0 ≤ w1 * k2 := Int.mul_nonneg hw1 (by omega)
  have a3 : 0 ≤ w1 * k1 := Int.mul_nonneg hw1 (by omega)
  have a4 : 0 ≤ w2 * k2 := Int.mul_nonneg hw2 (by omega)
  have b1 : 0 ≤ (k2 - w2) * k1 := Int.mul_nonneg (by omega) (by omega)
  have b2 : 0 ≤ (k1 - w1) * k2 := Int.mul_nonneg (by omega) (by omega)
  have b3 : 0 ≤ (k2 - w2) * k2 := Int.mul_nonneg (by omega) (by omega)
  have b4 : 0 ≤ (k1 - w1) * k1 := Int.mul_nonneg (by omega) (by omega)
  have key : ∀ {x : Int}, 0 ≤ x → 0 ≤ x.tdiv (k1 + k2) ∧ (∀ y, x ≤ y * (k1 + k2) → x.tdiv (k1 + k2) ≤ y) := by
    intro x hx
    refine ⟨Int.tdiv_nonneg hx (by omega), fun y hy => ?_⟩
    rw [Int.tdiv_eq_ediv_of_nonneg hx]
    exact Int.ediv_le_of_le_mul hp hy
  have r1 : (k2 - w2) * k1 = k2 * k1 - w2 * k1 := Int.sub_mul ..
  have r2 : (k1 - w1) * k2 = k1 * k2 - w1 * k2 := Int.sub_mul ..
  have r3 : (k2 - w2) * k2 = k2 * k2 - w2 * k2 := Int.sub_mul ..
  have r4 : (k1 - w1) * k1 = k1 * k1 - w1 * k1 := Int.sub_mul ..
  have r5 : w1 * (k1 + k2) = w1 * k1 + w1 * k2 := Int.mul_add ..
  have r6 : w2 * (k1 + k2) = w2 * k1 + w2 * k2 := Int.mul_add ..
  have r7 : (k2 - w2) * (k1 + k2) = (k2 - w2) * k1 + (k2 - w2) * k2 := Int.mul_add ..
  have r8 : (k1 - w1) * (k1 + k2) = (k1 - w1) * k1 + (k1 - w1) * k2 := Int.mul_add ..
  have r9 : k2 * k1 = k1 * k2 := Int.mul_comm ..
  by_cases hx : 0 ≤ w1 * k2 - w2 * k1
  · obtain ⟨p1, p2⟩ := key hx
    rw [← ht] at p1
    have p3 := p2 w1 (by rw [r5]; omega)
    have p4 := p2 (k2 - w2) (by rw [r7]; omega)
    rw [← ht] at p3 p4
    exact ⟨fun _ => ⟨p3, by omega⟩, fun h => ⟨by omega, by omega⟩⟩
  · have hx2 : 0 ≤ -(w1 * k2 - w2 * k1) := by omega
    obtain ⟨p1, p2⟩ := key hx2
    have e : (-(w1 * k2 - w2 * k1)).tdiv (k1 + k2) = -t := by rw [ht, Int.neg_tdiv]
    rw [e] at p1
    have p3 := p2 w2 (by rw [r6]; omega)
    have p4 := p2 (k1 - w1) (by rw [r8]; omega)
    rw [e] at p3 p4
    exact ⟨fun h => ⟨by omega, by omega⟩, fun _ => ⟨by omega, by omega⟩⟩
theorem rgH.even {q f1 f2 : Nat → Int32} (h1 : rgH f1) (h2 : rgH f2) (hl : 1 ≤ (q 2).toInt ∧ (q 2).toInt ≤ 50) :
    rgH (upd f1 2 (f1 2 - flwF q f1 f2)) ∧ rgH (upd f2 2 (f2 2 + flwF q f1 f2)) := by
  obtain ⟨e1, e2, e3⟩ := flwI h1 h2 hl
  obtain ⟨_, b1, c1, _⟩ := id h1
  obtain ⟨_, b2, c2, _⟩ := id h2
  obtain ⟨t, ht⟩ : ∃ t, t = ((f1 2).toInt * (f2 1).toInt - (f2 2).toInt * (f1 1).toInt).tdiv ((f1 1).toInt + (f2 1).toInt) := ⟨_, rfl⟩
  obtain ⟨k1, k2⟩ := evenLe (w1 := (f1 2).toInt) (k1 := (f1 1).toInt) (w2 := (f2 2).toInt) (k2 := (f2 1).toInt) (by omega) (by omega) (by omega) (by omega) (by omega) t ht
  rw [← ht] at e3
  have g1 : (f1 2 - flwF q f1 f2).toInt = (f1 2).toInt - (flwF q f1 f2).toInt := subI (by omega) (by omega)
  have g2 : (f2 2 + flwF q f1 f2).toInt = (f2 2).toInt + (flwF q f1 f2).toInt := addI (by omega) (by omega)
  rcases Int.le_total 0 t with h0 | h0
  · obtain ⟨u1, u2⟩ := k1 h0
    exact ⟨h1.w (by omega) (by omega), h2.w (by omega) (by omega)⟩
  · obtain ⟨u1, u2⟩ := k2 h0
    exact ⟨h1.w (by omega) (by omega), h2.w (by omega) (by omega)⟩
