/-! what a day does to each house, and to the sums -/
theorem all_of {F : (Nat → Int32) → Nat → Int32} {f : Nat → tS → tS} (hf : ∀ i T, sH (f i T) = va_up (sH T) i (F (sH T i))) {N : Nat} {T0 : tS} {j : Nat} (hj : j < N) : sH (itr f 0 N T0) j = F (sH T0 j) := by
  have h := itr_inv f (fun i T => (∀ h, h < i → sH T h = F (sH T0 h)) ∧ (∀ h, i ≤ h → sH T h = sH T0 h)) N (fun i T hi hT => by
    refine ⟨fun h hh => ?_, fun h hh => ?_⟩
    · rw [hf]
      by_cases c : h = i
      · subst c; rw [va_up_self, hT.2 h (Nat.le_refl _)]
      · rw [va_up_ne _ _ c]; exact hT.1 h (by omega)
    · rw [hf, va_up_ne _ _ (by omega)]; exact hT.2 h (by omega)) N 0 T0 (Nat.zero_add _) ⟨fun h hh => absurd hh (by omega), fun h _ => rfl⟩
  exact h.1 j hj
/-- the pipes' ends stay -/
theorem evenS_q {T : tS} {i p w : Nat} (h4 : w ≠ 4) (h5 : w ≠ 5) : sQ (evenS i T) p w = sQ T p w := by
  unfold evenS
  split
  · rfl
  · show va_up (sQ T) i (evQ (sQ T i) _ _) p w = _
    refine va_o ?_ p
    unfold evQ
    rw [upd_n _ _ h4, upd_n _ _ h5]
theorem even_no {T : tS} {i k : Nat} (hA : evA T i ≠ k) (hB : evB T i ≠ k) : sH (evenS i T) k = sH T k := by
  unfold evenS
  split
  · rfl
  · show va_up (va_up (sH T) _ _) _ _ k = _
    rw [va_up_ne _ _ (Ne.symm hB), va_up_ne _ _ (Ne.symm hA)]
def noPipe (S : tS) (k : Nat) : Prop := ∀ p, p < sP S → evA S p ≠ k ∧ evB S p ≠ k
theorem day4_no {ra : Nat → Int32} {S : tS} {k : Nat} (hP : sP (day3 ra S) = sP S) (hQ : sQ (day3 ra S) = sQ S) (hno : noPipe S k) : sH (day4 ra S) k = sH (day3 ra S) k := by
  have h := itr_inv evenS (fun _ T => sH T k = sH (day3 ra S) k ∧ (∀ p w, w ≠ 4 → w ≠ 5 → sQ T p w = sQ S p w)) (sP S) (fun i T hi hT => by
    obtain ⟨a, b⟩ := hno i hi
    have eA : evA T i = evA S i := by unfold evA; rw [hT.2 i 0 (by decide) (by decide)]
    have eB : evB T i = evB S i := by unfold evB; rw [hT.2 i 1 (by decide) (by decide)]
    exact ⟨(even_no (by rw [eA]; exact a) (by rw [eB]; exact b)).trans hT.1, fun p w h4 h5 => (evenS_q h4 h5).trans (hT.2 p w h4 h5)⟩) (sP S) 0 (day3 ra S) (Nat.zero_add _) ⟨rfl, fun p w _ _ => by rw [hQ]⟩
  unfold day4
  exact h.1
theorem itr_Q {f : Nat → tS → tS} (hf : ∀ i T, sQ (f i T) = sQ T) : ∀ (k i : Nat) (T : tS), sQ (itr f i k T) = sQ T
  | 0, _, _ => rfl
  | k + 1, i, T => (itr_Q hf k (i + 1) (f i T)).trans (hf i T)
theorem day3_Q {ra : Nat → Int32} {S : tS} : sQ (day3 ra S) = sQ S := by
  unfold day3 day2 day1
  rw [itr_Q (f := gardS) (fun _ _ => rfl), itr_Q (f := drinkS) (fun _ _ => rfl), itr_Q (f := rainS (ra (dayN S))) (fun _ _ => rfl)]
theorem gardF_kf {f : Nat → Int32} {w : Nat} (h2 : w ≠ 2) (h8 : w ≠ 8) : gardF f w = f w := by
  unfold gardF
  split
  · rw [upd_n _ _ h8, upd_n _ _ h2]
  · rfl
theorem day_h {ra le : Nat → Int32} (hwk : wok ra le) {S : tS} (ho : ok S) {k : Nat} (hk : k < sN S) : ∃ f : Nat → Int32, rgH f ∧ (∀ w, w ≠ 2 → f w = sH S k w) ∧ (∀ w, w ≠ 2 → w ≠ 5 → sH (dayS ra le S) k w = gardF (drinkF f) w) ∧ sH (dayS ra le S) k 5 = jmin 10 (sH S k 5 + le (dayN S)) ∧ rgH (sH (dayS ra le S) k) ∧ (noPipe S k → sH (dayS ra le S) k 2 = gardF (drinkF f) 2) := by
  obtain ⟨o1, s1⟩ := day1_ok (ra := ra) (le := le) hwk ho
  obtain ⟨o3, s3⟩ := day3_ok (ra := ra) (le := le) hwk ho
  obtain ⟨o5, s5⟩ := day5_ok (ra := ra) (le := le) hwk ho
  have e1 : ∀ w, w ≠ 2 → sH (day1 ra S) k w = sH S k w := fun w hw => day1_kf hw ra S k
  have e3 : sH (day3 ra S) k = gardF (drinkF (sH (day1 ra S) k)) := by
    unfold day3 day2
    rw [all_of (F := gardF) (f := gardS) (fun _ _ => rfl) hk, all_of (F := drinkF) (f := drinkS) (fun _ _ => rfl) hk]
  have e4 : ∀ w, w ≠ 2 → sH (day4 ra S) k w = sH (day3 ra S) k w := fun w hw => itr_kf (evenS_kf hw) _ _ _ _
  have e5 : sH (dayS ra le S) k = clogF (sH (day4 ra S) k) (le (dayN S)) := by
    show sH (day5 ra le S) k = _
    unfold day5
    exact all_of (F := fun f => clogF f (le (dayN S))) (f := clogS (le (dayN S))) (fun _ _ => rfl) hk
  refine ⟨sH (day1 ra S) k, o1.2.2.1 k (by rw [s1.1]; exact hk), e1, fun w h2 h5 => ?_, ?_, o5.2.2.1 k (by rw [s5.1]; exact hk), fun hno => ?_⟩
  · rw [e5]
    show upd _ 5 _ w = _
    rw [upd_n _ _ h5, e4 w h2, e3]
  · rw [e5]
    show upd (sH (day4 ra S) k) 5 (jmin 10 (sH (day4 ra S) k 5 + le (dayN S))) 5 = _
    rw [upd_s, e4 5 (by decide), e3, gardF_kf (by decide) (by decide)]
    show jmin 10 (upd (upd (upd (sH (day1 ra S) k) 2 _) 7 _) 9 _ 5 + _) = _
    rw [upd_n _ _ (by decide), upd_n _ _ (by decide), upd_n _ _ (by decide), e1 5 (by decide)]
  · rw [e5]
    show upd _ 5 _ 2 = _
    rw [upd_n _ _ (by decide), day4_no s3.2.1 day3_Q hno, e3]
theorem subI0 (a b : Int32) : a + b - a = b := by grind
/-- what the law asks of a house -/
theorem day_chk {ra le : Nat → Int32} (hwk : wok ra le) {S : tS} (ho : ok S) {k : Nat} (hk : k < sN S) : ∃ u G : Nat, u ≤ 27 ∧ G ≤ 20 ∧ sH (dayS ra le S) k 7 - sH S k 7 = nI u ∧ sH (dayS ra le S) k 8 - sH S k 8 = nI G ∧ ¬ 3 * sH S k 3 < nI u ∧ ¬ sH S k 4 < nI G ∧ (0 < u → G = 0) ∧ ¬ sH (dayS ra le S) k 2 < 0 ∧ ¬ sH S k 1 < sH (dayS ra le S) k 2 ∧ sH (dayS ra le S) k 9 = sH S k 9 + (if 0 < u then 1 else 0) ∧ sH (dayS ra le S) k 5 = jmin 10 (sH S k 5 + le (dayN S)) ∧ sH (dayS ra le S) k 6 = sH S k 6 ∧ sH (dayS ra le S) k 1 = sH S k 1 ∧ (noPipe S k → (0 < u → sH (dayS ra le S) k 2 = 0) ∧ (0 < G → sH S k 1 ≤ 2 * sH (dayS ra le S) k 2)) := by
  obtain ⟨f, hf, e, e2, e5, hr', hno⟩ := day_h hwk ho hk
  obtain ⟨d1, d2⟩ := drkI hf
  obtain ⟨_, b, c, dd, ge, _⟩ := id hf
  have hg := hf.drink
  obtain ⟨G, g1, g2, g3⟩ := gard_n hg
  have tk : (thF f).toInt = 3 * (f 3).toInt - (drkF f).toInt := by
    unfold thF
    rw [subI (by omega) (by omega), d1]
  obtain ⟨u, u1, u2, u3⟩ := nI_self (x := thF f) (N := 27) (by omega) (by omega) (by decide)
  have q7 : drinkF f 7 = f 7 + thF f := rfl
  have q2 : drinkF f 2 = f 2 - drkF f := rfl
  have q1 : drinkF f 1 = f 1 := rfl
  have q4 : drinkF f 4 = f 4 := rfl
  have q6 : drinkF f 6 = f 6 := rfl
  have q8 : drinkF f 8 = f 8 := rfl
  have q9 : drinkF f 9 = if drkF f < 3 * f 3 then f 9 + 1 else f 9 := rfl
  have w2 : (drinkF f 2).toInt = (f 2).toInt - (drkF f).toInt := by rw [q2, subI (by omega) (by omega)]
  have lt : drkF f < 3 * f 3 ↔ 0 < u := by
    rw [Int32.lt_iff_toInt_lt, d1]
    omega
  -- nothing is left where there is thirst
  have dry : 0 < u → G = 0 ∧ drinkF f 2 = 0 := fun h => by
    have z2 : (drinkF f 2).toInt = 0 := by omega
    have z3 : drinkF f 2 = 0 := Int32.toInt_inj.mp (by rw [z2, li_0])
    refine ⟨?_, z3⟩
    rcases Nat.eq_zero_or_pos G with h0 | h0
    · exact h0
    · have := ((g3 0 (by omega)).mp h0).2
      rw [z3, show nI 0 = 0 from rfl, q1] at this
      have t1 := Int32.le_iff_toInt_le.mp this
      have t2 : (2 * ((0 : Int32) - 0 - 1)).toInt = -2 := by decide
      omega
  have n3 : f 3 = sH S k 3 := e 3 (by decide)
  have n4 : f 4 = sH S k 4 := e 4 (by decide)
  have n1 : f 1 = sH S k 1 := e 1 (by decide)
  have G4 : ¬ f 4 < nI G := by
    rcases Nat.eq_zero_or_pos G with h0 | h0
    · rw [h0, Int32.lt_iff_toInt_lt]
      have : (nI 0).toInt = 0 := nI_toInt (by decide)
      omega
    · have := ((g3 (G - 1) (by omega)).mp (by omega)).1
      rw [q4, Int32.le_iff_toInt_le, nI_toInt (by omega)] at this
      rw [Int32.lt_iff_toInt_lt, nI_toInt (by omega)]
      omega
  have h1 : sH (dayS ra le S) k 1 = sH S k 1 := by rw [e2 1 (by decide) (by decide), gardF_kf (by decide) (by decide), q1, n1]
  refine ⟨u, G, u1, g1, ?_, ?_, ?_, by rw [← n4]; exact G4, fun h => (dry h).1, ?_, ?_, ?_, e5, ?_, h1, fun hnp => ⟨fun h => ?_, fun h => ?_⟩⟩
  · rw [e2 7 (by decide) (by decide), gardF_kf (by decide) (by decide), q7, e 7 (by decide), u3, subI0]
  · rw [e2 8 (by decide) (by decide), g2, upd_s, q8, e 8 (by decide), subI0]
  · rw [← n3, Int32.lt_iff_toInt_lt, d1, nI_toInt (by omega)]
    omega
  · rw [Int32.lt_iff_toInt_lt, li_0]
    have := hr'.2.2.1.1
    omega
  · rw [← h1, Int32.lt_iff_toInt_lt]
    have := hr'.2.2.1.2
    omega
  · rw [e2 9 (by decide) (by decide), gardF_kf (by decide) (by decide), q9, e 9 (by decide)]
    by_cases c9 : 0 < u
    · rw [if_pos (lt.mpr c9), if_pos c9]
    · rw [if_neg (fun q => c9 (lt.mp q)), if_neg c9, Int32.add_zero]
  · rw [e2 6 (by decide) (by decide), gardF_kf (by decide) (by decide), q6, e 6 (by decide)]
  · obtain ⟨z1, z2⟩ := dry h
    rw [hno hnp, g2, z1, upd_n _ _ (by decide), upd_s, z2]
    decide
  · have w' : sH (dayS ra le S) k 2 = drinkF f 2 - nI G := by rw [hno hnp, g2, upd_n _ _ (by decide), upd_s]
    have a1 := ((g3 (G - 1) (by omega)).mp (by omega)).2
    rw [q1] at a1
    have e1 : drinkF f 2 - nI (G - 1) - 1 = sH (dayS ra le S) k 2 := by
      rw [w', show nI G = nI (G - 1) + 1 from by rw [nI_1]; exact congrArg nI (by omega)]
      grind
    rw [e1] at a1
    rw [← n1]
    exact a1
/-! sums over the houses, on the way -/
def rsm (S : tS) (w : Int32) (k : Nat) : Int32 := itr (fun i a => a + sH S i 0 * w * (10 - sH S i 5) / 10) 0 k 0
def nsm (S : tS) (k : Nat) : Int32 := itr (fun i a => a + 3 * sH S i 3) 0 k 0
theorem rsm_s (S : tS) (w : Int32) (k : Nat) : rsm S w (k + 1) = rsm S w k + sH S k 0 * w * (10 - sH S k 5) / 10 := by
  unfold rsm
  rw [itr_last, Nat.zero_add]
theorem nsm_s (S : tS) (k : Nat) : nsm S (k + 1) = nsm S k + 3 * sH S k 3 := by
  unfold nsm
  rw [itr_last, Nat.zero_add]
theorem itr_M {w : Nat} {f : Nat → tS → tS} (hf : ∀ i T, sM (f i T) w = sM T w) : ∀ (k i : Nat) (T : tS), sM (itr f i k T) w = sM T w
  | 0, _, _ => rfl
  | k + 1, i, T => (itr_M hf k (i + 1) (f i T)).trans (hf i T)
theorem evenS_M (i : Nat) (T : tS) : sM (evenS i T) = sM T := by
  unfold evenS
  split <;> rfl
theorem dayS_M {ra le : Nat → Int32} {S : tS} {w : Nat} (h0 : w ≠ 0) : sM (dayS ra le S) w = sM (day2 ra S) w := by
  show upd (sM (day5 ra le S)) 0 _ w = _
  rw [upd_n _ _ h0]
  unfold day5 day4 day3
  rw [itr_M (w := w) (f := clogS (le (dayN S))) (fun _ _ => rfl), itr_M (w := w) (f := evenS) (fun i T => by rw [evenS_M]), itr_M (w := w) (f := gardS) (fun _ _ => rfl)]
theorem roofs_eq {ra le : Nat → Int32} (hwk : wok ra le) {S : tS} (ho : ok S) : sM (dayS ra le S) 1 = sM S 1 + rsm S (ra (dayN S)) (sN S) := by
  rw [dayS_M (by decide)]
  unfold day2
  rw [itr_M (w := 1) (f := drinkS) (fun _ _ => rfl)]
  have h := itr_inv (rainS (ra (dayN S))) (fun i T => sM T 1 = sM S 1 + rsm S (ra (dayN S)) i ∧ ∀ h w, w ≠ 2 → sH T h w = sH S h w) (sN S) (fun i T hi hT => by
    refine ⟨?_, fun h w hw => (rainS_kf hw _ i T h).trans (hT.2 h w hw)⟩
    have m1 : sM (rainS (ra (dayN S)) i T) 1 = sM T 1 + rainA (ra (dayN S)) i T := pourT_M (S := setM T _) (by decide)
    rw [m1, hT.1, rsm_s]
    unfold rainA
    rw [hT.2 i 0 (by decide), hT.2 i 5 (by decide), Int32.add_assoc]) (sN S) 0 S (Nat.zero_add _) ⟨by show sM S 1 = sM S 1 + 0; rw [Int32.add_zero], fun _ _ _ => rfl⟩
  exact h.1
theorem needs_eq {ra le : Nat → Int32} (hwk : wok ra le) {S : tS} (ho : ok S) : sM (dayS ra le S) 3 = sM S 3 + nsm S (sN S) - (sumS 7 (dayS ra le S) - sumS 7 S) := by
  obtain ⟨o1, s1⟩ := day1_ok (ra := ra) (le := le) hwk ho
  have m0 : sM (day1 ra S) 3 = sM S 3 := itr_M (w := 3) (f := rainS (ra (dayN S))) (fun i T => pourT_M (S := setM T _) (by decide)) _ _ _
  have t0 : sumS 7 (day1 ra S) = sumS 7 S := sumS_kf s1.1 (fun i => day1_kf (by decide) ra S i)
  have h := itr_inv drinkS (fun i T => sM T 3 + sumS 7 T = sM S 3 + sumS 7 S + nsm S i ∧ sN T = sN S ∧ ∀ h, sH T h 3 = sH S h 3) (sN S) (fun i T hi hT => by
    obtain ⟨h1, h2, h3⟩ := hT
    have m3 : sM (drinkS i T) 3 = sM T 3 + drkF (sH T i) := rfl
    have s7 := sumS_drink (T := T) (h := i) (by rw [h2]; exact hi)
    refine ⟨?_, h2, fun h => ?_⟩
    · rw [m3, s7, nsm_s, ← h3 i]
      unfold thF
      grind
    · show va_up (sH T) i (drinkF (sH T i)) h 3 = _
      rw [va_o (by simp [drinkF, upd])]
      exact h3 h) (sN S) 0 (day1 ra S) (Nat.zero_add _) ⟨by
        show sM (day1 ra S) 3 + sumS 7 (day1 ra S) = sM S 3 + sumS 7 S + 0
        rw [m0, t0, Int32.add_zero], s1.1, fun h => day1_kf (by decide) ra S h⟩
  have e3 : sM (dayS ra le S) 3 = sM (day2 ra S) 3 := dayS_M (by decide)
  have s2 : sN (day2 ra S) = sN S := h.2.1
  have s5 := (dayS_ok hwk ho).2.1
  have e7 : sumS 7 (dayS ra le S) = sumS 7 (day2 ra S) := sumS_kf (S := day2 ra S) (T := dayS ra le S) (by rw [s5, s2]) (fun i => dayS_kf (by decide) (by decide) (by decide) ra le S i)
  have h1 : sM (day2 ra S) 3 + sumS 7 (day2 ra S) = sM S 3 + sumS 7 S + nsm S (sN S) := h.1
  rw [e3, e7]
  grind
theorem cart_eq {ra le : Nat → Int32} {S : tS} : sM (dayS ra le S) 4 = sM S 4 := by
  rw [dayS_M (by decide)]
  unfold day2 day1
  rw [itr_M (w := 4) (f := drinkS) (fun _ _ => rfl)]
  exact itr_M (w := 4) (f := rainS (ra (dayN S))) (fun i T => pourT_M (S := setM T _) (by decide)) _ _ _
