/-! what a day does to thirst; what stays -/
theorem itr_kf {w : Nat} {f : Nat → tS → tS} (hf : ∀ i T h, sH (f i T) h w = sH T h w) : ∀ (k i : Nat) (T : tS) (h : Nat), sH (itr f i k T) h w = sH T h w
  | 0, _, _, _ => rfl
  | k + 1, i, T, h => (itr_kf hf k (i + 1) (f i T) h).trans (hf i T h)
theorem rainS_kf {w : Nat} (hw : w ≠ 2) (v : Int32) (i : Nat) (T : tS) (h : Nat) : sH (rainS v i T) h w = sH T h w := pourS_keep _ _ _ _ _ _ hw
theorem gardS_kf {w : Nat} (h2 : w ≠ 2) (h8 : w ≠ 8) (i : Nat) (T : tS) (h : Nat) : sH (gardS i T) h w = sH T h w := by
  refine va_o ?_ h
  unfold gardF
  split
  · rw [upd_n _ _ h8, upd_n _ _ h2]
  · rfl
theorem evenS_kf {w : Nat} (h2 : w ≠ 2) (i : Nat) (T : tS) (h : Nat) : sH (evenS i T) h w = sH T h w := by
  unfold evenS
  split
  · rfl
  · show va_up (va_up (sH T) _ _) _ _ h w = sH T h w
    by_cases c1 : h = evB T i
    · subst c1; rw [va_up_self, upd_n _ _ h2]
    · rw [va_up_ne _ _ c1]
      exact va_o (upd_n _ _ h2) h
theorem clogS_kf {w : Nat} (h5 : w ≠ 5) (v : Int32) (i : Nat) (T : tS) (h : Nat) : sH (clogS v i T) h w = sH T h w := va_o (upd_n _ _ h5) h
theorem day1_kf {w : Nat} (hw : w ≠ 2) (ra : Nat → Int32) (S : tS) (h : Nat) : sH (day1 ra S) h w = sH S h w := itr_kf (rainS_kf hw _) _ _ _ _
theorem dayS_kf {w : Nat} (h2 : w ≠ 2) (h5 : w ≠ 5) (h8 : w ≠ 8) (ra le : Nat → Int32) (S : tS) (h : Nat) : sH (dayS ra le S) h w = sH (day2 ra S) h w := by
  show sH (day5 ra le S) h w = _
  unfold day5
  rw [itr_kf (clogS_kf h5 _)]
  unfold day4
  rw [itr_kf (evenS_kf h2)]
  unfold day3
  rw [itr_kf (gardS_kf h2 h8)]
theorem drink_all {N : Nat} {T0 : tS} {j : Nat} (hj : j < N) : sH (itr drinkS 0 N T0) j = drinkF (sH T0 j) := by
  have h := itr_inv drinkS (fun i T => (∀ h, h < i → sH T h = drinkF (sH T0 h)) ∧ (∀ h, i ≤ h → sH T h = sH T0 h)) N (fun i T hi hT => by
    refine ⟨fun h hh => ?_, fun h hh => ?_⟩
    · show va_up (sH T) i _ h = _
      by_cases c : h = i
      · subst c; rw [va_up_self, hT.2 h (Nat.le_refl _)]
      · rw [va_up_ne _ _ c]; exact hT.1 h (by omega)
    · show va_up (sH T) i _ h = _
      rw [va_up_ne _ _ (by omega)]; exact hT.2 h (by omega)) N 0 T0 (Nat.zero_add _) ⟨fun h hh => absurd hh (by omega), fun h _ => rfl⟩
  exact h.1 j hj
def thF (f : Nat → Int32) : Int32 := 3 * f 3 - drkF f
theorem asub0 (a b : Int32) : a + b - a = b := by
  rw [Int32.sub_eq_add_neg, Int32.add_comm a b, Int32.add_assoc, Int32.add_right_neg, Int32.add_zero]
/-- a day, for one house -/
theorem day_one {ra le : Nat → Int32} (hwk : wok ra le) {S : tS} (ho : ok S) {j : Nat} (hj : j < sN S) : ∃ u : Nat, u ≤ 27 ∧ sH (dayS ra le S) j 7 = sH S j 7 + nI u ∧ (u = 0 ↔ sH (dayS ra le S) j 9 = sH S j 9) := by
  obtain ⟨o1, s1⟩ := day1_ok (ra := ra) (le := le) hwk ho
  have hr := o1.2.2.1 j (by rw [s1.1]; exact hj)
  obtain ⟨a, b, c, d, e, f⟩ := hr
  have e7 : sH (dayS ra le S) j 7 = sH S j 7 + thF (sH (day1 ra S) j) := by
    rw [dayS_kf (by decide) (by decide) (by decide)]
    unfold day2
    rw [drink_all hj, ← day1_kf (w := 7) (by decide) ra S j]
    rfl
  have e9 : sH (dayS ra le S) j 9 = if drkF (sH (day1 ra S) j) < 3 * sH (day1 ra S) j 3 then sH S j 9 + 1 else sH S j 9 := by
    rw [dayS_kf (by decide) (by decide) (by decide)]
    unfold day2
    rw [drink_all hj, ← day1_kf (w := 9) (by decide) ra S j]
    rfl
  have m3 : (3 * sH (day1 ra S) j 3).toInt = 3 * (sH (day1 ra S) j 3).toInt := by
    have h3 : (3 : Int32).toInt = 3 := by decide
    rw [mulI (by rw [h3]; omega) (by rw [h3]; omega), h3]
  have dk : (drkF (sH (day1 ra S) j)).toInt = min (3 * (sH (day1 ra S) j 3).toInt) (sH (day1 ra S) j 2).toInt := by
    unfold drkF
    rw [jminI, m3]
  have tk : (thF (sH (day1 ra S) j)).toInt = 3 * (sH (day1 ra S) j 3).toInt - (drkF (sH (day1 ra S) j)).toInt := by
    unfold thF
    rw [subI (by omega) (by omega), m3]
  obtain ⟨u, u1, u2, u3⟩ := nI_self (x := thF (sH (day1 ra S) j)) (N := 27) (by omega) (by omega) (by decide)
  refine ⟨u, u1, by rw [e7, u3], ?_⟩
  rw [e9]
  have lt : drkF (sH (day1 ra S) j) < 3 * sH (day1 ra S) j 3 ↔ 0 < u := by
    rw [Int32.lt_iff_toInt_lt, m3]
    omega
  constructor
  · intro h
    rw [if_neg (fun q => by have := lt.mp q; omega)]
  · intro h
    rcases Nat.eq_zero_or_pos u with h0 | h0
    · exact h0
    · rw [if_pos (lt.mpr h0)] at h
      have h1 := asub0 (sH S j 9) 1
      rw [h, Int32.sub_self] at h1
      exact absurd h1 (by decide)
theorem dtt_s (ra le : Nat → Int32) (j : Nat) (b : Int32) (k i : Nat) (S : tS) : dtt ra le j b (k + 1) i S = if sH (dayS ra le S) j 9 = b then dtt ra le j b k (i + 1) (dayS ra le S) else (nI i, dayS ra le S) := rfl
theorem add_nI_eq {a : Int32} {t : Nat} (ht : t < 2 ^ 31) : a + nI t = a ↔ t = 0 := by
  constructor
  · intro h
    have h1 := asub0 a (nI t)
    rw [h, Int32.sub_self] at h1
    exact (nI_inj (by omega) (by omega) (h1.symm.trans rfl : nI t = nI 0))
  · intro h
    subst h
    exact Int32.add_zero a
theorem itr_day {ra le : Nat → Int32} : ∀ (k i i' : Nat) (S : tS), itr (fun _ => dayS ra le) i k S = itr (fun _ => dayS ra le) i' k S
  | 0, _, _, _ => rfl
  | k + 1, i, i', S => itr_day k (i + 1) (i' + 1) (dayS ra le S)
/-- so many days, for one house -/
theorem days_one {ra le : Nat → Int32} (hwk : wok ra le) {j : Nat} : ∀ (k i : Nat) {S : tS}, ok S → j < sN S → i + k < 2 ^ 30 → ∃ t : Nat, t ≤ 27 * k ∧ sH (daysS ra le k S) j 7 = sH S j 7 + nI t ∧ (t = 0 ↔ (dtt ra le j (sH S j 9) k i S).1 = -1)
  | 0, i, S, _, _, _ => ⟨0, Nat.le_refl _, (Int32.add_zero _).symm, ⟨fun _ => rfl, fun _ => rfl⟩⟩
  | k + 1, i, S, ho, hj, hi => by
    obtain ⟨u, u1, u2, u3⟩ := day_one hwk ho hj
    obtain ⟨a1, a2, a3, a4⟩ := dayS_ok hwk ho
    obtain ⟨t, t1, t2, t3⟩ := days_one hwk k (i + 1) (S := dayS ra le S) (j := j) a1 (by rw [a2]; exact hj) (by omega)
    have es : daysS ra le (k + 1) S = daysS ra le k (dayS ra le S) := by
      unfold daysS
      exact itr_day k 1 0 _
    refine ⟨u + t, by omega, by rw [es, t2, u2, Int32.add_assoc, nI_add], ?_⟩
    rw [dtt_s]
    by_cases c : sH (dayS ra le S) j 9 = sH S j 9
    · have hu := u3.mpr c
      rw [if_pos c, ← c]
      constructor
      · intro h; exact t3.mp (by omega)
      · intro h
        have := t3.mpr h
        omega
    · rw [if_neg c]
      have hu : u ≠ 0 := fun h => c (u3.mp h)
      exact ⟨fun h => absurd h (by omega), fun h => absurd h (nI_m1 (by omega))⟩
/-! sums -/
theorem its (x : Nat → Int32) : ∀ (k i : Nat) (a b : Int32), itr (fun i a => a + x i) i k (a + b) = itr (fun i a => a + x i) i k a + b
  | 0, _, _, _ => rfl
  | k + 1, i, a, b => by
    show itr (fun i a => a + x i) (i + 1) k (a + b + x i) = itr (fun i a => a + x i) (i + 1) k (a + x i) + b
    rw [show a + b + x i = a + x i + b by rw [Int32.add_assoc, Int32.add_comm b, ← Int32.add_assoc], its x k (i + 1)]
theorem its_up {w h : Nat} {hs : Nat → Nat → Int32} {f : Nat → Int32} : ∀ (k i : Nat) (a : Int32), itr (fun i a => a + va_up hs h f i w) i k a = itr (fun i a => a + hs i w) i k a + (if i ≤ h ∧ h < i + k then f w - hs h w else 0)
  | 0, i, a => by rw [if_neg (by omega), Int32.add_zero]; rfl
  | k + 1, i, a => by
    show itr (fun i a => a + va_up hs h f i w) (i + 1) k (a + va_up hs h f i w) = itr (fun i a => a + hs i w) (i + 1) k (a + hs i w) + _
    rw [its_up k (i + 1)]
    by_cases c : i = h
    · subst c
      rw [va_up_self, if_neg (by omega), if_pos (by omega), Int32.add_zero, show a + f w = a + hs i w + (f w - hs i w) by rw [Int32.add_assoc, Int32.add_comm (hs i w), Int32.sub_add_cancel], its]
    · rw [va_up_ne _ _ c]
      by_cases c2 : i + 1 ≤ h ∧ h < i + 1 + k
      · rw [if_pos c2, if_pos (by omega)]
      · rw [if_neg c2, if_neg (by omega)]
theorem sumS_drink {h : Nat} {T : tS} (hh : h < sN T) : sumS 7 (drinkS h T) = sumS 7 T + thF (sH T h) := by
  show itr (fun i a => a + va_up (sH T) h (drinkF (sH T h)) i 7) 0 (sN T) 0 = _
  rw [its_up, if_pos (by omega)]
  congr 1
  show sH T h 7 + (3 * sH T h 3 - drkF (sH T h)) - sH T h 7 = _
  rw [asub0]
  rfl
theorem sumS_kf {w : Nat} {S T : tS} (hN : sN T = sN S) (h : ∀ i, sH T i w = sH S i w) : sumS w T = sumS w S := by
  unfold sumS
  rw [hN]
  congr 1
  funext i a
  rw [h i]
