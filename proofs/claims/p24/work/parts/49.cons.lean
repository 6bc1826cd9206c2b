/-! where the water is -/
def cons (S : tS) : Prop := sM S 1 + sM S 4 = sumS 2 S + sM S 2 + sM S 3 + sumS 8 S
def sig (w N : Nat) (hs : Nat → Nat → Int32) : Int32 := itr (fun i a => a + hs i w) 0 N 0
theorem sumS_sig (w : Nat) (S : tS) : sumS w S = sig w (sN S) (sH S) := rfl
theorem sig_up {w N h : Nat} {hs : Nat → Nat → Int32} {f : Nat → Int32} (hh : h < N) : sig w N (va_up hs h f) = sig w N hs + (f w - hs h w) := by
  unfold sig
  rw [its_up, if_pos (by omega)]
theorem sig_kf {w N : Nat} {hs hs' : Nat → Nat → Int32} (h : ∀ i, hs' i w = hs i w) : sig w N hs' = sig w N hs := by
  unfold sig
  exact itr_congr (fun _ _ => True) N (fun _ _ _ _ => trivial) (fun i a _ _ => by rw [h]) N 0 0 (Nat.zero_add _) trivial
theorem pour_sig {N : Nat} (hN : N ≤ 10) : ∀ {k : Nat} {hs : Nat → Nat → Int32} {x a : Int32}, Ter N hs k x → sig 2 N (pourS k hs x a).1 + (pourS k hs x a).2 = sig 2 N hs + a
  | 0, _, _, _, _ => rfl
  | k + 1, hs, x, a, ⟨j, h1, h2, h3⟩ => by
    rw [h2, pourS_nI (by omega), pour_sig hN (h3.congr (hs' := va_up hs j (takeF (hs j) a)) (fun h _ => va_o (take_o _ _ (by decide)) h)), sig_up h1]
    have e : takeF (hs j) a 2 = hs j 2 + tkF (hs j) a := upd_s _ _ _
    rw [e]
    grind
theorem pourT_sig {S : tS} {i : Nat} {a : Int32} (ho : ok S) (hi : i < sN S) : sumS 2 (pourT S (nI i) a) + sM (pourT S (nI i) a) 2 = sumS 2 S + sM S 2 + a := by
  obtain ⟨k, hk, ht⟩ := ok_ter ho hi
  have e := pour_sig ho.1 (a := a) ht
  rw [← pourS_ter ho.1 ht (sN S) hk] at e
  have e1 : sumS 2 (pourT S (nI i) a) = sig 2 (sN S) (pourS (sN S) (sH S) (nI i) a).1 := rfl
  have e2 : sM (pourT S (nI i) a) 2 = sM S 2 + (pourS (sN S) (sH S) (nI i) a).2 := rfl
  rw [e1, e2, sumS_sig]
  grind
theorem pourT_w {S : tS} {x a : Int32} {w : Nat} (hw : w ≠ 2) : sumS w (pourT S x a) = sumS w S := sig_kf (fun i => pourS_keep _ _ _ _ i w hw)
theorem pourT_M {S : tS} {x a : Int32} {w : Nat} (hw : w ≠ 2) : sM (pourT S x a) w = sM S w := upd_n _ _ hw
theorem cons_h {S T : tS} (h : cons S) (hN : sN T = sN S) (h2 : ∀ i, sH T i 2 = sH S i 2) (h8 : ∀ i, sH T i 8 = sH S i 8) (hM : sM T = sM S) : cons T := by
  have e2 : sumS 2 T = sumS 2 S := by rw [sumS_sig, sumS_sig, hN]; exact sig_kf h2
  have e8 : sumS 8 T = sumS 8 S := by rw [sumS_sig, sumS_sig, hN]; exact sig_kf h8
  unfold cons at h ⊢
  rw [e2, e8, hM, h]
theorem cons_cart {S : tS} {i : Nat} {w : Int32} (ho : ok S) (hi : i < sN S) (h : cons S) : cons (pourT (caT w S) (nI i) w) := by
  have e := pourT_sig (S := caT w S) (a := w) (ok_M ho) hi
  have e8 : sumS 8 (pourT (caT w S) (nI i) w) = sumS 8 S := pourT_w (S := caT w S) (by decide)
  have m1 : sM (pourT (caT w S) (nI i) w) 1 = sM S 1 := pourT_M (S := caT w S) (by decide)
  have m3 : sM (pourT (caT w S) (nI i) w) 3 = sM S 3 := pourT_M (S := caT w S) (by decide)
  have m4 : sM (pourT (caT w S) (nI i) w) 4 = sM S 4 + w := pourT_M (S := caT w S) (by decide)
  have c2 : sM (caT w S) 2 = sM S 2 := rfl
  have s2 : sumS 2 (caT w S) = sumS 2 S := rfl
  unfold cons at h ⊢
  rw [e8, m1, m3, m4]
  rw [c2, s2] at e
  grind
theorem cons_build {S : tS} {r h p q : Int32} (hc : cons S) : cons (buildT r h p q S) := by
  have e : ∀ w, newH r h p q w = 0 → sumS w (buildT r h p q S) = sumS w S := fun w hw => by
    show itr (fun i a => a + va_up (sH S) (sN S) (newH r h p q) i w) 0 (sN S + 1) 0 = _
    rw [itr_last, Nat.zero_add, va_up_self, hw, Int32.add_zero]
    exact itr_congr (fun _ _ => True) (sN S) (fun _ _ _ _ => trivial) (fun i a hi _ => by rw [va_up_ne _ _ (by omega)]) (sN S) 0 0 (Nat.zero_add _) trivial
  have m : sM (buildT r h p q S) = sM S := rfl
  unfold cons at hc ⊢
  rw [e 2 rfl, e 8 rfl, m, hc]
theorem cons_0 : cons S0 := rfl
/-! a day's stages -/
theorem rain_cons {w : Int32} {S : tS} {i : Nat} (ho : ok S) (hi : i < sN S) (h : cons S) : cons (rainS w i S) := by
  have e := pourT_sig (S := setM S (upd (sM S) 1 (sM S 1 + rainA w i S))) (a := rainA w i S) (ok_M ho) hi
  have e8 : sumS 8 (rainS w i S) = sumS 8 S := pourT_w (S := setM S _) (by decide)
  have m1 : sM (rainS w i S) 1 = sM S 1 + rainA w i S := pourT_M (S := setM S _) (by decide)
  have m3 : sM (rainS w i S) 3 = sM S 3 := pourT_M (S := setM S _) (by decide)
  have m4 : sM (rainS w i S) 4 = sM S 4 := pourT_M (S := setM S _) (by decide)
  have c2 : sM (setM S (upd (sM S) 1 (sM S 1 + rainA w i S))) 2 = sM S 2 := rfl
  have s2 : sumS 2 (setM S (upd (sM S) 1 (sM S 1 + rainA w i S))) = sumS 2 S := rfl
  have e' : sumS 2 (rainS w i S) + sM (rainS w i S) 2 = sumS 2 S + sM S 2 + rainA w i S := by
    rw [c2, s2] at e
    exact e
  unfold cons at h ⊢
  rw [e8, m1, m3, m4]
  grind
theorem sumS_up {w h : Nat} {S T : tS} {f : Nat → Int32} (hN : sN T = sN S) (hH : sH T = va_up (sH S) h f) (hh : h < sN S) : sumS w T = sumS w S + (f w - sH S h w) := by
  rw [sumS_sig, sumS_sig, hN, hH, sig_up hh]
theorem drink_cons {S : tS} {i : Nat} (hi : i < sN S) (h : cons S) : cons (drinkS i S) := by
  have e2 : sumS 2 (drinkS i S) = sumS 2 S + (drinkF (sH S i) 2 - sH S i 2) := sumS_up rfl rfl hi
  have e8 : sumS 8 (drinkS i S) = sumS 8 S + (drinkF (sH S i) 8 - sH S i 8) := sumS_up rfl rfl hi
  have d2 : drinkF (sH S i) 2 = sH S i 2 - drkF (sH S i) := rfl
  have d8 : drinkF (sH S i) 8 = sH S i 8 := rfl
  have m1 : sM (drinkS i S) 1 = sM S 1 := rfl
  have m2 : sM (drinkS i S) 2 = sM S 2 := rfl
  have m3 : sM (drinkS i S) 3 = sM S 3 + drkF (sH S i) := rfl
  have m4 : sM (drinkS i S) 4 = sM S 4 := rfl
  unfold cons at h ⊢
  rw [e2, e8, d2, d8, m1, m2, m3, m4]
  grind
theorem gard_cons {S : tS} {i : Nat} (hi : i < sN S) (h : cons S) : cons (gardS i S) := by
  have e2 : sumS 2 (gardS i S) = sumS 2 S + (gardF (sH S i) 2 - sH S i 2) := sumS_up rfl rfl hi
  have e8 : sumS 8 (gardS i S) = sumS 8 S + (gardF (sH S i) 8 - sH S i 8) := sumS_up rfl rfl hi
  have m : sM (gardS i S) = sM S := rfl
  have d : gardF (sH S i) 2 + gardF (sH S i) 8 = sH S i 2 + sH S i 8 := by
    unfold gardF
    split
    · have a1 : ∀ x y, upd (upd (sH S i) 2 x) 8 y 2 = x := fun _ _ => rfl
      have a2 : ∀ x y, upd (upd (sH S i) 2 x) 8 y 8 = y := fun _ _ => rfl
      rw [a1, a2]
      grind
    · rfl
  unfold cons at h ⊢
  rw [e2, e8, m]
  grind
theorem even_cons {S : tS} {p : Nat} (ho : ok S) (hp : p < sP S) (h : cons S) : cons (evenS p S) := by
  unfold evenS
  split
  · exact h
  obtain ⟨hA, hB, hAB, -⟩ := okQ_ends ho hp
  have e : ∀ w, sumS w (evenT p S) = sumS w S + (upd (sH S (evA S p)) 2 (sH S (evA S p) 2 - evF S p) w - sH S (evA S p) w) + (upd (sH S (evB S p)) 2 (sH S (evB S p) 2 + evF S p) w - sH S (evB S p) w) := fun w => by
    show sig w (sN S) (va_up (va_up (sH S) (evA S p) _) (evB S p) _) = _
    rw [sig_up hB, sig_up hA, va_up_ne _ _ (Ne.symm hAB)]
    rfl
  have m : sM (evenT p S) = sM S := rfl
  have e2 := e 2
  have e8 := e 8
  rw [upd_s, upd_s] at e2
  rw [upd_n _ _ (by decide), upd_n _ _ (by decide)] at e8
  unfold cons at h ⊢
  rw [e2, e8, m]
  grind
theorem day_cons {ra le : Nat → Int32} (hwk : wok ra le) {S : tS} (ho : ok S) (h : cons S) : cons (dayS ra le S) := by
  obtain ⟨o1, s1⟩ := day1_ok (ra := ra) (le := le) hwk ho
  obtain ⟨o2, s2⟩ := day2_ok (ra := ra) (le := le) hwk ho
  obtain ⟨o3, s3⟩ := day3_ok (ra := ra) (le := le) hwk ho
  obtain ⟨o4, s4⟩ := day4_ok (ra := ra) (le := le) hwk ho
  have c1 := (itr_inv (rainS (ra (dayN S))) (fun _ T => ok T ∧ same S T ∧ cons T) (sN S) (fun i T hi hT => by
    obtain ⟨a, b⟩ := rainS_ok hT.1 (by rw [hT.2.1.1]; exact hi) (hwk.1 _ (dayN_lt S))
    exact ⟨a, hT.2.1.tr b, rain_cons hT.1 (by rw [hT.2.1.1]; exact hi) hT.2.2⟩) (sN S) 0 S (Nat.zero_add _) ⟨ho, same.rf, h⟩).2.2
  have c2 := (itr_inv drinkS (fun _ T => ok T ∧ same S T ∧ cons T) (sN S) (fun i T hi hT => by
    obtain ⟨a, b⟩ := drinkS_ok (i := i) hT.1
    exact ⟨a, hT.2.1.tr b, drink_cons (by rw [hT.2.1.1]; exact hi) hT.2.2⟩) (sN S) 0 (day1 ra S) (Nat.zero_add _) ⟨o1, s1, c1⟩).2.2
  have c3 := (itr_inv gardS (fun _ T => ok T ∧ same S T ∧ cons T) (sN S) (fun i T hi hT => by
    obtain ⟨a, b⟩ := gardS_ok (i := i) hT.1
    exact ⟨a, hT.2.1.tr b, gard_cons (by rw [hT.2.1.1]; exact hi) hT.2.2⟩) (sN S) 0 (day2 ra S) (Nat.zero_add _) ⟨o2, s2, c2⟩).2.2
  have c4 := (itr_inv evenS (fun _ T => ok T ∧ same S T ∧ cons T) (sP S) (fun i T hi hT => by
    obtain ⟨a, b⟩ := evenS_ok hT.1 (p := i) (by rw [hT.2.1.2.1]; exact hi)
    exact ⟨a, hT.2.1.tr b, even_cons hT.1 (by rw [hT.2.1.2.1]; exact hi) hT.2.2⟩) (sP S) 0 (day3 ra S) (Nat.zero_add _) ⟨o3, s3, c3⟩).2.2
  have c5 := (itr_inv (clogS (le (dayN S))) (fun _ T => ok T ∧ same S T ∧ cons T) (sN S) (fun i T hi hT => by
    obtain ⟨a, b⟩ := clogS_ok (i := i) hT.1 (hwk.2 _ (dayN_lt S))
    exact ⟨a, hT.2.1.tr b, cons_h hT.2.2 rfl (fun h => clogS_kf (by decide) _ i T h) (fun h => clogS_kf (by decide) _ i T h) rfl⟩) (sN S) 0 (day4 ra S) (Nat.zero_add _) ⟨o4, s4, c4⟩).2.2
  unfold cons at c5 ⊢
  exact c5
