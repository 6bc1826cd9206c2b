/-! what a day does to each pipe, and to what houses owe each other -/
def pOk (q q' : Nat → Int32) (F : Int32) : Prop := -(q 2).toInt ≤ F.toInt ∧ F.toInt ≤ (q 2).toInt ∧ (q 3 = 0 → F = 0) ∧ q' 4 = q 4 + jabs F ∧ q' 5 = q 5 + F ∧ ∀ w, w ≠ 4 → w ≠ 5 → q' w = q w
theorem flw_le {q f1 f2 : Nat → Int32} (hl : 1 ≤ (q 2).toInt ∧ (q 2).toInt ≤ 50) : -(q 2).toInt ≤ (flwF q f1 f2).toInt ∧ (flwF q f1 f2).toInt ≤ (q 2).toInt := by
  unfold flwF
  rw [jmaxI, jminI, negI (by omega)]
  omega
theorem pipe_chk {ra le : Nat → Int32} (hwk : wok ra le) {S : tS} (ho : ok S) {p : Nat} (hp : p < sP S) : ∃ F : Int32, pOk (sQ S p) (sQ (dayS ra le S) p) F := by
  obtain ⟨o3, s3⟩ := day3_ok (ra := ra) (le := le) hwk ho
  have h := itr_inv evenS (fun i T => ok T ∧ same S T ∧ (∀ j, j < i → ∃ F : Int32, pOk (sQ S j) (sQ T j) F) ∧ ∀ j, i ≤ j → sQ T j = sQ S j) (sP S) (fun i T hi hT => by
    obtain ⟨hT, hs, h1, h2⟩ := hT
    have hi2 : i < sP T := by rw [hs.2.1]; exact hi
    obtain ⟨a, b⟩ := evenS_ok hT (p := i) hi2
    have hq : ∀ j, j ≠ i → sQ (evenS i T) j = sQ T j := fun j hj => by
      unfold evenS
      split
      · rfl
      · exact va_up_ne _ _ hj
    refine ⟨a, hs.tr b, fun j hj => ?_, fun j hj => (hq j (by omega)).trans (h2 j (by omega))⟩
    by_cases e : j = i
    · subst e
      have e2 := h2 j (Nat.le_refl _)
      obtain ⟨-, -, -, -, -, l1, l2, hb⟩ := okQ_ends hT hi2
      by_cases c : sQ T j 3 = 0
      · have e3 : evenS j T = T := if_pos c
        refine ⟨0, ?_⟩
        rw [e3, e2]
        rw [e2] at l1 l2
        refine ⟨by rw [li_0]; omega, by rw [li_0]; omega, fun _ => rfl, ?_, (Int32.add_zero _).symm, fun _ _ _ => rfl⟩
        show _ = sQ S j 4 + 0
        rw [Int32.add_zero]
      · have e3 : evenS j T = evenT j T := if_neg c
        have e4 : sQ (evenT j T) j = evQ (sQ T j) (sH T (evA T j)) (sH T (evB T j)) := va_up_self _ _ _
        refine ⟨evF T j, ?_⟩
        have fl := flw_le (q := sQ T j) (f1 := sH T (evA T j)) (f2 := sH T (evB T j)) ⟨l1, l2⟩
        rw [e3, e4, ← e2]
        exact ⟨fl.1, fl.2, fun q => absurd q c, rfl, rfl, fun w h4 h5 => by unfold evQ; rw [upd_n _ _ h4, upd_n _ _ h5]⟩
    · rw [hq j e]
      exact h1 j (by omega)) (sP S) 0 (day3 ra S) (Nat.zero_add _) ⟨o3, s3, fun j hj => absurd hj (by omega), fun j _ => by rw [day3_Q]⟩
  have e : sQ (dayS ra le S) = sQ (day4 ra S) := by
    show sQ (day5 ra le S) = _
    unfold day5
    exact itr_Q (f := clogS (le (dayN S))) (fun _ _ => rfl) _ _ _
  rw [e]
  exact h.2.2.1 p hp
theorem open_eq {ra le : Nat → Int32} (hwk : wok ra le) {S : tS} (ho : ok S) : openS (dayS ra le S) = openS S := by
  unfold openS
  rw [(dayS_ok hwk ho).2.2.1]
  exact itr_congr (fun _ _ => True) (sP S) (fun _ _ _ _ => trivial) (fun i a hi _ => by
    obtain ⟨F, h⟩ := pipe_chk hwk ho hi
    rw [h.2.2.2.2.2 3 (by decide) (by decide)]) (sP S) 0 0 (Nat.zero_add _) trivial
/-! partial sums of what is owed, and of what goes through pipes that aren't closed -/
def dsm (x y : Int32) (S : tS) (k : Nat) : Int32 := itr (fun p a => a + debtF (sQ S p) x y) 0 k 0
theorem dsm_s (x y : Int32) (S : tS) (k : Nat) : dsm x y S (k + 1) = dsm x y S k + debtF (sQ S k) x y := by
  unfold dsm
  rw [itr_last, Nat.zero_add]
def btw (q : Nat → Int32) (x y : Int32) : Prop := q 3 = 1 ∧ (q 0 = x ∧ q 1 = y ∨ q 0 = y ∧ q 1 = x)
def lsm (x y : Int32) (S : tS) (k : Nat) : Int32 := itr (fun p a => if sQ S p 3 = 1 ∧ (sQ S p 0 = x ∧ sQ S p 1 = y ∨ sQ S p 0 = y ∧ sQ S p 1 = x) then a + sQ S p 2 else a) 0 k 0
theorem lsm_y {x y : Int32} {S : tS} {k : Nat} (h : btw (sQ S k) x y) : lsm x y S (k + 1) = lsm x y S k + sQ S k 2 := by
  unfold lsm
  rw [itr_last, Nat.zero_add]
  exact if_pos h
theorem lsm_n {x y : Int32} {S : tS} {k : Nat} (h : ¬ btw (sQ S k) x y) : lsm x y S (k + 1) = lsm x y S k := by
  unfold lsm
  rw [itr_last, Nat.zero_add]
  exact if_neg h
theorem debt_d {q q' : Nat → Int32} {F x y : Int32} (h : pOk q q' F) (h3 : isB (q 3)) (hl : 1 ≤ (q 2).toInt ∧ (q 2).toInt ≤ 50) : (btw q' x y → -(q' 2).toInt ≤ (debtF q' x y - debtF q x y).toInt ∧ (debtF q' x y - debtF q x y).toInt ≤ (q' 2).toInt) ∧ (¬ btw q' x y → debtF q' x y - debtF q x y = 0) := by
  obtain ⟨a1, a2, a3, -, a5, a6⟩ := h
  have e0 := a6 0 (by decide) (by decide)
  have e1 := a6 1 (by decide) (by decide)
  have e2 := a6 2 (by decide) (by decide)
  have e3 := a6 3 (by decide) (by decide)
  have nF : (-F).toInt = -F.toInt := negI (by omega)
  unfold debtF btw
  rw [e0, e1, e2, e3, a5]
  have z1 : q 5 + F - q 5 = F := by grind
  have z2 : -(q 5 + F) - -(q 5) = -F := by grind
  by_cases c1 : x = q 1 ∧ y = q 0
  · rw [if_pos c1, if_pos c1, z1]
    refine ⟨fun _ => ⟨a1, a2⟩, fun hn => a3 ?_⟩
    rcases h3 with h | h
    · exact h
    · exact absurd ⟨h, Or.inr ⟨c1.2.symm, c1.1.symm⟩⟩ hn
  · rw [if_neg c1, if_neg c1]
    by_cases c2 : x = q 0 ∧ y = q 1
    · rw [if_pos c2, if_pos c2, z2]
      refine ⟨fun _ => by rw [nF]; omega, fun hn => ?_⟩
      rcases h3 with h | h
      · rw [a3 h]; decide
      · exact absurd ⟨h, Or.inl ⟨c2.1.symm, c2.2.symm⟩⟩ hn
    · rw [if_neg c2, if_neg c2, Int32.sub_self]
      refine ⟨fun _ => by rw [li_0]; omega, fun _ => rfl⟩
theorem owes_i {ra le : Nat → Int32} (hwk : wok ra le) {S : tS} (ho : ok S) (x y : Int32) : ∀ k, k ≤ sP S → 0 ≤ (lsm x y (dayS ra le S) k).toInt ∧ (lsm x y (dayS ra le S) k).toInt ≤ 50 * k ∧ -(lsm x y (dayS ra le S) k).toInt ≤ (dsm x y (dayS ra le S) k - dsm x y S k).toInt ∧ (dsm x y (dayS ra le S) k - dsm x y S k).toInt ≤ (lsm x y (dayS ra le S) k).toInt := by
  intro k
  induction k with
  | zero =>
    intro _
    have e1 : lsm x y (dayS ra le S) 0 = 0 := rfl
    have e2 : dsm x y (dayS ra le S) 0 - dsm x y S 0 = 0 := by
      show (0 : Int32) - 0 = 0
      decide
    rw [e1, e2, li_0]
    omega
  | succ k ih =>
    intro hk
    obtain ⟨i1, i2, i3, i4⟩ := ih (by omega)
    have hP := ho.2.1
    obtain ⟨F, hF⟩ := pipe_chk hwk ho (show k < sP S by omega)
    obtain ⟨-, -, -, -, -, l1, l2, hb⟩ := okQ_ends ho (show k < sP S by omega)
    have q2 := hF.2.2.2.2.2 2 (by decide) (by decide)
    obtain ⟨d1, d2⟩ := debt_d (x := x) (y := y) hF hb ⟨l1, l2⟩
    have e : dsm x y (dayS ra le S) (k + 1) - dsm x y S (k + 1) = (dsm x y (dayS ra le S) k - dsm x y S k) + (debtF (sQ (dayS ra le S) k) x y - debtF (sQ S k) x y) := by
      rw [dsm_s, dsm_s]
      grind
    by_cases c : btw (sQ (dayS ra le S) k) x y
    · obtain ⟨d3, d4⟩ := d1 c
      rw [q2] at d3 d4
      have t1 : (lsm x y (dayS ra le S) (k + 1)).toInt = (lsm x y (dayS ra le S) k).toInt + (sQ S k 2).toInt := by
        rw [lsm_y c, q2, addI (by omega) (by omega)]
      rw [t1, e, addI (by omega) (by omega)]
      omega
    · rw [lsm_n c, e, d2 c, Int32.add_zero]
      omega
/-- what the law asks of what is owed -/
theorem owes_chk {ra le : Nat → Int32} (hwk : wok ra le) {S : tS} (ho : ok S) (x y : Int32) : ¬ lsm x y (dayS ra le S) (sP S) < debtS x y (dayS ra le S) - debtS x y S ∧ -(debtS x y (dayS ra le S) - debtS x y S) ≤ lsm x y (dayS ra le S) (sP S) := by
  obtain ⟨i1, i2, i3, i4⟩ := owes_i hwk ho x y (sP S) (Nat.le_refl _)
  have hP := ho.2.1
  have e1 : debtS x y (dayS ra le S) = dsm x y (dayS ra le S) (sP S) := by
    unfold debtS dsm
    rw [(dayS_ok hwk ho).2.2.1]
  have e2 : debtS x y S = dsm x y S (sP S) := rfl
  rw [e1, e2]
  refine ⟨fun q => ?_, ?_⟩
  · rw [Int32.lt_iff_toInt_lt] at q
    omega
  · rw [Int32.le_iff_toInt_le, negI (by omega)]
    omega
theorem debt_anti {S : tS} (ho : ok S) (x y : Int32) : debtS x y S = -debtS y x S := by
  have h := itr_inv (S := Int32 × Int32) (fun p a => (a.1 + debtF (sQ S p) x y, a.2 + debtF (sQ S p) y x)) (fun _ a => a.1 = -a.2) (sP S) (fun p a hp ha => by
    show a.1 + debtF (sQ S p) x y = -(a.2 + debtF (sQ S p) y x)
    obtain ⟨h1, h2, h3, h4, h5, -⟩ := okQ_ends ho hp
    have hN := ho.1
    have ne : sQ S p 0 ≠ sQ S p 1 := fun q => h3 (nI_inj (by omega) (by omega) (by rw [← h4, ← h5]; exact q))
    have e : debtF (sQ S p) x y = -debtF (sQ S p) y x := by
      unfold debtF
      by_cases c1 : x = sQ S p 1 ∧ y = sQ S p 0
      · have c3 : ¬ (y = sQ S p 1 ∧ x = sQ S p 0) := fun q => ne (c1.2.symm.trans q.1)
        rw [if_pos c1, if_neg c3, if_pos ⟨c1.2, c1.1⟩, Int32.neg_neg]
      · rw [if_neg c1]
        by_cases c2 : x = sQ S p 0 ∧ y = sQ S p 1
        · rw [if_pos c2, if_pos ⟨c2.2, c2.1⟩]
        · rw [if_neg c2, if_neg (fun q => c2 ⟨q.2, q.1⟩), if_neg (fun q => c1 ⟨q.2, q.1⟩)]
          decide
    rw [e, ha]
    grind) (sP S) 0 (0, 0) (Nat.zero_add _) rfl
  have e1 : ∀ (k i : Nat) (a b : Int32), (itr (S := Int32 × Int32) (fun p a => (a.1 + debtF (sQ S p) x y, a.2 + debtF (sQ S p) y x)) i k (a, b)) = (itr (fun p a => a + debtF (sQ S p) x y) i k a, itr (fun p a => a + debtF (sQ S p) y x) i k b) := by
    intro k
    induction k with
    | zero => intro _ _ _; rfl
    | succ k ih => intro i a b; exact ih (i + 1) _ _
  rw [e1] at h
  exact h
/-! the first day of thirst, a day later -/
theorem dtt_n {ra le : Nat → Int32} {j : Nat} {b : Int32} : ∀ (k i i' : Nat) (S : tS), (dtt ra le j b k i S).1 = -1 ∨ ∃ m, m < k ∧ (dtt ra le j b k i S).1 = nI (i + m) ∧ (dtt ra le j b (k + 1) i' S).1 = nI (i' + m)
  | 0, _, _, _ => Or.inl rfl
  | k + 1, i, i', S => by
    rw [dtt_s, dtt_s]
    by_cases c : sH (dayS ra le S) j 9 = b
    · rw [if_pos c, if_pos c]
      rcases dtt_n k (i + 1) (i' + 1) (dayS ra le S) with h | ⟨m, h1, h2, h3⟩
      · exact Or.inl h
      · exact Or.inr ⟨m + 1, by omega, by rw [h2]; exact congrArg nI (by omega), by rw [h3]; exact congrArg nI (by omega)⟩
    · rw [if_neg c, if_neg c]
      exact Or.inr ⟨0, by omega, rfl, rfl⟩
theorem lasts_1 {ra le : Nat → Int32} {S : tS} {j : Nat} : (dtt ra le j (sH S j 9) 200 1 S).1 = 1 ↔ ¬ sH (dayS ra le S) j 9 = sH S j 9 := by
  rw [dtt_s]
  by_cases c : sH (dayS ra le S) j 9 = sH S j 9
  · rw [if_pos c]
    refine ⟨fun h => ?_, fun h => absurd c h⟩
    rcases dtt_n (ra := ra) (le := le) (j := j) (b := sH S j 9) 199 2 2 (dayS ra le S) with h1 | ⟨m, h1, h2, -⟩
    · rw [h1] at h
      exact absurd h (by decide)
    · rw [h2] at h
      have := nI_inj (by omega) (by decide) (show nI (2 + m) = nI 1 from h)
      omega
  · rw [if_neg c]
    exact ⟨fun _ => c, fun _ => rfl⟩
theorem lasts_d {ra le : Nat → Int32} {S : tS} {j : Nat} (h1 : ¬ (dtt ra le j (sH S j 9) 200 1 S).1 ≤ 1) : (dtt ra le j (sH (dayS ra le S) j 9) 200 1 (dayS ra le S)).1 = (dtt ra le j (sH S j 9) 200 1 S).1 - 1 := by
  have c : sH (dayS ra le S) j 9 = sH S j 9 := Decidable.byContradiction (fun q => h1 (by rw [lasts_1.mpr q]; exact Int32.le_refl _))
  rw [dtt_s ra le j (sH S j 9) 199 1 S, if_pos c] at h1 ⊢
  rw [c]
  rcases dtt_n (ra := ra) (le := le) (j := j) (b := sH S j 9) 199 2 1 (dayS ra le S) with h | ⟨m, h2, h3, h4⟩
  · rw [h] at h1
    exact absurd (by decide) h1
  · rw [h3, h4, show 2 + m = (1 + m) + 1 by omega, nI_pred]
