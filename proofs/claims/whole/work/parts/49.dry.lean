/-! the longest dry row, told in both ways -/
theorem jmax_nI {a b : Nat} (ha : a < 2 ^ 31) (hb : b < 2 ^ 31) : jmax (nI a) (nI b) = nI (max a b) := by
  apply Int32.toInt_inj.mp
  rw [jmaxI, nI_toInt ha, nI_toInt hb, nI_toInt (by omega)]
  omega
theorem jmin_nI {a b : Nat} (ha : a < 2 ^ 31) (hb : b < 2 ^ 31) : jmin (nI a) (nI b) = nI (min a b) := by
  apply Int32.toInt_inj.mp
  rw [jminI, nI_toInt ha, nI_toInt hb, nI_toInt (by omega)]
  omega
def dryAt (ra : Nat → Int32) (t : Nat) : Prop := ra (t % 28) = 0
theorem cnt_ok (ra : Nat → Int32) (f : Nat) : ∀ (q m : Nat), q + m = 28 → (∀ t, t < m → dryAt ra (f + t)) → cntF ra f q m ≤ 28 ∧ (∀ t, t < cntF ra f q m → dryAt ra (f + t)) ∧ (cntF ra f q m = 28 ∨ ¬ dryAt ra (f + cntF ra f q m))
  | 0, m, h, hd => ⟨by show m ≤ 28; omega, hd, Or.inl (by show m = 28; omega)⟩
  | q + 1, m, h, hd => by
    rw [cntF_s]
    by_cases c : ra ((f + m) % 28) = 0
    · rw [if_pos c]
      refine cnt_ok ra f q (m + 1) (by omega) (fun t ht => ?_)
      by_cases e : t = m
      · subst e; exact c
      · exact hd t (by omega)
    · rw [if_neg c]
      exact ⟨by omega, hd, Or.inr c⟩
theorem dry_eq {ra le : Nat → Int32} (hw : wok ra le) : jmin (itr (dryS ra) 0 56 (0, 0)).1 28 = drM ra := by
  have z : (0 : Int32).toInt = 0 := Int32.toInt_zero
  have hpos : ∀ t, (¬ 0 < ra (t % 28)) ↔ dryAt ra t := fun t => by
    have h1 := (hw.1 (t % 28) (Nat.mod_lt _ (by decide))).1
    unfold dryAt
    rw [Int32.lt_iff_toInt_lt, z]
    constructor
    · intro h
      exact Int32.toInt_inj.mp (by rw [z]; omega)
    · intro h
      rw [h, z]
      omega
  have hL := itr_inv (dryS ra) (fun i q => ∃ L r : Nat, q = (nI L, nI r) ∧ L ≤ i ∧ r ≤ i ∧ (∀ j, j ≤ i → (∀ t, j ≤ t → t < i → dryAt ra t) → i - j ≤ r) ∧ (∀ t, i - r ≤ t → t < i → dryAt ra t) ∧ (∀ j i', j ≤ i' → i' ≤ i → (∀ t, j ≤ t → t < i' → dryAt ra t) → i' - j ≤ L) ∧ (∃ j i', j ≤ i' ∧ i' ≤ i ∧ i' - j = L ∧ ∀ t, j ≤ t → t < i' → dryAt ra t)) 56 (by
    rintro i q hi ⟨L, r, rfl, hLi, hr, hA, hB, hC, j0, i0, e1, e2, e3, e4⟩
    by_cases c : 0 < ra (i % 28)
    · have nd : ¬ dryAt ra i := fun q => ((hpos i).mpr q) c
      refine ⟨L, 0, ?_, by omega, by omega, ?_, ?_, ?_, j0, i0, e1, by omega, e3, e4⟩
      · show (jmax (nI L) (if 0 < ra (i % 28) then 0 else nI r + 1), if 0 < ra (i % 28) then 0 else nI r + 1) = _
        rw [if_pos c, show (0 : Int32) = nI 0 from rfl, jmax_nI (by omega) (by decide), Nat.max_eq_left (Nat.zero_le _)]
      · intro j hj hd
        rcases Nat.lt_or_ge j (i + 1) with h | h
        · exact absurd (hd i (by omega) (by omega)) nd
        · omega
      · intro t h1 h2
        omega
      · intro j i' h1 h2 hd
        rcases Nat.lt_or_ge i i' with h | h
        · rcases Nat.lt_or_ge j (i + 1) with h3 | h3
          · exact absurd (hd i (by omega) (by omega)) nd
          · omega
        · exact hC j i' h1 h hd
    · have d : dryAt ra i := (hpos i).mp c
      have hB' : ∀ t, i + 1 - (r + 1) ≤ t → t < i + 1 → dryAt ra t := fun t h1 h2 => by
        rcases Nat.lt_or_ge t i with h | h
        · exact hB t (by omega) h
        · rw [show t = i by omega]; exact d
      have hA' : ∀ j, j ≤ i + 1 → (∀ t, j ≤ t → t < i + 1 → dryAt ra t) → i + 1 - j ≤ r + 1 := fun j hj hd => by
        rcases Nat.lt_or_ge i j with h | h
        · omega
        · have := hA j h (fun t h1 h2 => hd t h1 (by omega))
          omega
      refine ⟨max L (r + 1), r + 1, ?_, by omega, by omega, hA', hB', ?_, ?_⟩
      · show (jmax (nI L) (if 0 < ra (i % 28) then 0 else nI r + 1), if 0 < ra (i % 28) then 0 else nI r + 1) = _
        rw [if_neg c, nI_1, jmax_nI (by omega) (by omega)]
      · intro j i' h1 h2 hd
        rcases Nat.lt_or_ge i i' with h | h
        · have e : i' = i + 1 := by omega
          subst e
          have := hA' j h1 hd
          omega
        · have := hC j i' h1 h hd
          omega
      · rcases Nat.lt_or_ge L (r + 1) with h | h
        · exact ⟨i + 1 - (r + 1), i + 1, by omega, by omega, by omega, hB'⟩
        · exact ⟨j0, i0, e1, by omega, by omega, e4⟩) 56 0 (0, 0) rfl ⟨0, 0, rfl, Nat.le_refl _, Nat.le_refl _, fun j hj _ => by omega, fun t h1 h2 => by omega, fun j i' h1 h2 _ => by omega, 0, 0, Nat.le_refl _, Nat.le_refl _, rfl, fun t h1 h2 => by omega⟩
  obtain ⟨L, r, eL, hL56, -, -, -, hC, j0, i0, e1, e2, e3, e4⟩ := hL
  have hM := itr_inv (fun f a => jmax a (nI (cntF ra f 28 0))) (fun f a => ∃ M : Nat, a = nI M ∧ M ≤ 28 ∧ (∀ f', f' < f → cntF ra f' 28 0 ≤ M) ∧ (M = 0 ∨ ∃ f', f' < f ∧ cntF ra f' 28 0 = M)) 28 (by
    rintro f a hf ⟨M, rfl, m1, m2, m3⟩
    obtain ⟨c1, c2, c3⟩ := cnt_ok ra f 28 0 rfl (fun t h => absurd h (by omega))
    refine ⟨max M (cntF ra f 28 0), ?_, by omega, fun f' hf' => ?_, ?_⟩
    · show jmax (nI M) _ = _
      rw [jmax_nI (by omega) (by omega)]
    · by_cases e : f' = f
      · subst e; omega
      · have := m2 f' (by omega); omega
    · rcases Nat.lt_or_ge M (cntF ra f 28 0) with h | h
      · exact Or.inr ⟨f, by omega, by omega⟩
      · rcases m3 with m3 | ⟨f', h1, h2⟩
        · exact Or.inl (by omega)
        · exact Or.inr ⟨f', by omega, by omega⟩) 28 0 0 rfl ⟨0, rfl, by omega, fun f' h => absurd h (by omega), Or.inl rfl⟩
  obtain ⟨M, eM, m1, m2, m3⟩ := hM
  unfold drM
  rw [eM, eL]
  show jmin (nI L) (nI 28) = nI M
  rw [jmin_nI (by omega) (by decide)]
  congr 1
  apply Nat.le_antisymm
  · -- a dry row begins at its day in the table
    obtain ⟨c1, c2, c3⟩ := cnt_ok ra (j0 % 28) 28 0 rfl (fun t h => absurd h (by omega))
    have h1 := m2 (j0 % 28) (Nat.mod_lt _ (by decide))
    generalize cntF ra (j0 % 28) 28 0 = C at c1 c2 c3 h1
    clear m3 m2
    rcases Nat.lt_or_ge C (min L 28) with h | h
    · rcases c3 with c3 | c3
      · omega
      · refine absurd ?_ c3
        have h2 := e4 (j0 + C) (by omega) (by omega)
        unfold dryAt at h2 ⊢
        rw [show (j0 % 28 + C) % 28 = (j0 + C) % 28 by omega]
        exact h2
    · omega
  · rcases m3 with m3 | ⟨f', h1, h2⟩
    · omega
    · obtain ⟨c1, c2, c3⟩ := cnt_ok ra f' 28 0 rfl (fun t h => absurd h (by omega))
      generalize cntF ra f' 28 0 = C at c1 c2 c3 h2
      clear m2
      have h3 := hC f' (f' + C) (by omega) (by omega) (fun t t1 t2 => by
        have := c2 (t - f') (by omega)
        rw [show f' + (t - f') = t by omega] at this
        exact this)
      omega
