/-! the law's day, told as the class's -/
def msF (f : Nat → Int32) : Int32 := jmax 0 (3 * f 3 - f 2)
theorem ms_ok {f : Nat → Int32} (h : rgH f) : msF f = 3 * f 3 - drkF f ∧ 3 * f 3 - msF f = drkF f ∧ (0 < msF f ↔ drkF f < 3 * f 3) := by
  obtain ⟨d1, d2⟩ := drkI h
  obtain ⟨_, b, c, e, _⟩ := h
  have e1 : (3 * f 3 - f 2).toInt = 3 * (f 3).toInt - (f 2).toInt := by rw [subI (by rw [d1]; omega) (by rw [d1]; omega), d1]
  have e2 : (msF f).toInt = max 0 (3 * (f 3).toInt - (f 2).toInt) := by unfold msF; rw [jmaxI, e1, li_0]
  have e3 : (3 * f 3 - drkF f).toInt = 3 * (f 3).toInt - (drkF f).toInt := by rw [subI (by rw [d1]; omega) (by rw [d1]; omega), d1]
  have e4 : (3 * f 3 - msF f).toInt = 3 * (f 3).toInt - (msF f).toInt := by rw [subI (by rw [d1]; omega) (by rw [d1]; omega), d1]
  refine ⟨Int32.toInt_inj.mp (by rw [e2, e3, d2]; omega), Int32.toInt_inj.mp (by rw [e4, e2, d2]; omega), ?_⟩
  rw [Int32.lt_iff_toInt_lt, Int32.lt_iff_toInt_lt, e2, d1, d2, li_0]
  omega
/-- what a garden gets, one by one -/
theorem gard_n {f : Nat → Int32} (h : rgH f) : ∃ G : Nat, G ≤ 20 ∧ gardF f = upd (upd f 2 (f 2 - nI G)) 8 (f 8 + nI G) ∧ ∀ k : Nat, k ≤ 20 → (k < G ↔ (¬ f 4 ≤ nI k ∧ f 1 ≤ 2 * (f 2 - nI k - 1))) := by
  obtain ⟨_, b, c, _, e, _⟩ := h
  have m2 : (2 * f 2).toInt = 2 * (f 2).toInt := by rw [mulI (by rw [li_2]; omega) (by rw [li_2]; omega), li_2]
  have m3 : (2 * f 2 - f 1).toInt = 2 * (f 2).toInt - (f 1).toInt := by rw [subI (by rw [m2]; omega) (by rw [m2]; omega), m2]
  have m4 : ((2 * f 2 - f 1) / 2).toInt = (2 * (f 2).toInt - (f 1).toInt).tdiv 2 := by rw [divI (by decide), m3, li_2]
  have cond : ∀ k : Nat, k ≤ 20 → ((¬ f 4 ≤ nI k ∧ f 1 ≤ 2 * (f 2 - nI k - 1)) ↔ ((k : Int) < (f 4).toInt ∧ (f 1).toInt ≤ 2 * ((f 2).toInt - k - 1))) := by
    intro k hk
    have n1 : (nI k).toInt = (k : Int) := nI_toInt (by omega)
    have a1 : (f 2 - nI k).toInt = (f 2).toInt - k := by rw [subI (by rw [n1]; omega) (by rw [n1]; omega), n1]
    have a2 : (f 2 - nI k - 1).toInt = (f 2).toInt - k - 1 := by rw [subI (by rw [a1, li_1]; omega) (by rw [a1, li_1]; omega), a1, li_1]
    have a3 : (2 * (f 2 - nI k - 1)).toInt = 2 * ((f 2).toInt - k - 1) := by rw [mulI (by rw [a2, li_2]; omega) (by rw [a2, li_2]; omega), a2, li_2]
    rw [Int32.le_iff_toInt_le, Int32.le_iff_toInt_le, a3, n1]
    omega
  by_cases c0 : 0 < 2 * f 2 - f 1
  · have c1 : 0 < 2 * (f 2).toInt - (f 1).toInt := by
      rw [Int32.lt_iff_toInt_lt, li_0, m3] at c0
      exact c0
    have t1 : (2 * (f 2).toInt - (f 1).toInt).tdiv 2 = (2 * (f 2).toInt - (f 1).toInt) / 2 := Int.tdiv_eq_ediv_of_nonneg (by omega)
    have g1 : (gvnF f).toInt = min (f 4).toInt ((2 * (f 2).toInt - (f 1).toInt) / 2) := by unfold gvnF; rw [jminI, m4, t1]
    obtain ⟨G, q1, q2, q3⟩ := nI_self (x := gvnF f) (N := 20) (by omega) (by omega) (by decide)
    have g2 : (gvnF f).toInt = (G : Int) := q2.symm
    refine ⟨G, q1, ?_, fun k hk => ?_⟩
    · unfold gardF
      rw [if_pos c0, q3]
    · rw [cond k hk]
      omega
  · have c1 : ¬ 0 < 2 * (f 2).toInt - (f 1).toInt := by
      rw [Int32.lt_iff_toInt_lt, li_0, m3] at c0
      exact c0
    refine ⟨0, by omega, ?_, fun k hk => ?_⟩
    · unfold gardF
      rw [if_neg c0, show nI 0 = 0 from rfl, Int32.sub_zero, Int32.add_zero]
      funext i
      unfold upd
      split
      · rename_i q; rw [q]
      · split
        · rename_i q; rw [q]
        · rfl
    · rw [cond k hk]
      omega
theorem upd_eta (f : Nat → Int32) (k : Nat) : upd f k (f k) = f := by
  funext i
  unfold upd
  split
  · rename_i q; rw [q]
  · rfl
/-- the flow as the law has it -/
def goL (q f1 f2 : Nat → Int32) (M : Int32) : Int32 := jmin (q 2) ((if M < 0 then -M else M) / (f1 1 + f2 1))
theorem goL_ok {q f1 f2 : Nat → Int32} (h1 : rgH f1) (h2 : rgH f2) (hl : 1 ≤ (q 2).toInt ∧ (q 2).toInt ≤ 50) : goL q f1 f2 (f1 2 * f2 1 - f2 2 * f1 1) = jabs (flwF q f1 f2) ∧ (f1 2 * f2 1 - f2 2 * f1 1 < 0 → goL q f1 f2 (f1 2 * f2 1 - f2 2 * f1 1) = -flwF q f1 f2) ∧ (¬ f1 2 * f2 1 - f2 2 * f1 1 < 0 → goL q f1 f2 (f1 2 * f2 1 - f2 2 * f1 1) = flwF q f1 f2) ∧ (f1 2 * f2 1 - f2 2 * f1 1 = 0 → flwF q f1 f2 = 0) := by
  obtain ⟨e1, e2, e3, e4⟩ := goF_ok (q := q) h1 h2 hl
  have eq : goL q f1 f2 (f1 2 * f2 1 - f2 2 * f1 1) = goF q f1 f2 := by
    unfold goL goF
    congr 2
    unfold jabs
    by_cases c : 0 ≤ f1 2 * f2 1 - f2 2 * f1 1
    · rw [if_neg (Int32.not_lt.mpr c), if_pos c]
    · rw [if_pos (Int32.not_le.mp c), if_neg c, Int32.zero_sub]
  have e0 : f1 2 * f2 1 - f2 2 * f1 1 = 0 → flwF q f1 f2 = 0 := by
    intro z
    unfold flwF
    rw [z]
    have k1 : (0 : Int32) / (f1 1 + f2 1) = 0 := by
      have hk : (f1 1 + f2 1).toInt = (f1 1).toInt + (f2 1).toInt := addI (by have := h1.2.1; have := h2.2.1; omega) (by have := h1.2.1; have := h2.2.1; omega)
      apply Int32.toInt_inj.mp
      rw [divI (fun h => by rw [h] at hk; have := h1.2.1; have := h2.2.1; have z1 : (-1 : Int32).toInt = -1 := by decide
                            omega), li_0]
      exact Int.zero_tdiv _
    rw [k1]
    apply Int32.toInt_inj.mp
    rw [jmaxI, jminI, negI (by omega), li_0]
    omega
  refine ⟨eq.trans e1.symm, fun h => ?_, fun h => ?_, e0⟩
  · rw [eq, e3 (fun q => Int32.lt_irrefl (Int32.lt_trans q h)), Int32.neg_neg]
  · by_cases c : 0 < f1 2 * f2 1 - f2 2 * f1 1
    · rw [eq, e2 c]
    · have z : f1 2 * f2 1 - f2 2 * f1 1 = 0 := Int32.le_antisymm (Int32.not_lt.mp c) (Int32.not_lt.mp h)
      have f0 := e3 c
      rw [e0 z] at f0
      rw [eq, e0 z]
      have f1' : -goF q f1 f2 = 0 := f0.symm
      have f2' : - -goF q f1 f2 = -0 := congrArg (fun x => -x) f1'
      rwa [Int32.neg_neg, Int32.neg_zero] at f2'
/-- two houses, a pipe and the table, as the law leaves them -/
def evL (T : tS) (p : Nat) (x y z : Int32) (i : Nat) (u : Int32) : tS := (sN T, sP T, va_up (va_up (sH T) (evA T p) (upd (sH T (evA T p)) 2 x)) (evB T p) (upd (sH T (evB T p)) 2 y), va_up (sQ T) p (upd (sQ T p) 4 z), upd (sF T) i u, sM T)
theorem evL_eq {cy : Nat → ClassId} {ad : Nat → Nat} {T : tS} {ra le : Nat → Int32} {g0 : Nat → va_E} {p i : Nat} {G F x y : Int32} (hF : F = evF T p) (hx : x = sH T (evA T p) 2 - F) (hy : y = sH T (evB T p) 2 + F) (hG : G = jabs F) (hi : i = evI T p ∨ G = 0) : gS cy ad (evL T p x y (sQ T p 4 + G) i (sF T i + G)) ra le g0 = gS cy ad (evenT p T) ra le g0 := by
  subst hx hy hF
  have e1 : upd (sF T) i (sF T i + G) = upd (sF T) (evI T p) (sF T (evI T p) + jabs (evF T p)) := by
    rcases hi with h | h
    · rw [h, hG]
    · rw [← hG, h, Int32.add_zero, Int32.add_zero, upd_eta, upd_eta]
  funext k
  refine gS_ext (S := evenT p T) (T := evL T p _ _ _ i _) rfl rfl (fun _ => rfl) (fun _ => rfl) (fun _ => rfl) (fun _ _ => rfl) (fun _ => rfl) (fun _ _ => ?_) (fun _ => rfl) (fun _ => rfl) (fun _ _ => rfl) (fun _ _ => ?_)
  · show fr (upd (sF T) i (sF T i + G)) _ = fr (upd (sF T) (evI T p) (sF T (evI T p) + jabs (evF T p))) _
    rw [e1]
  · show c5 (va_up (sQ T) p (upd (sQ T p) 4 (sQ T p 4 + G)) _) = c5 (va_up (sQ T) p (evQ (sQ T p) (sH T (evA T p)) (sH T (evB T p))) _)
    generalize k - (97 + sN (evenT p T)) = j
    by_cases e : j = p
    · subst e
      rw [va_up_self, va_up_self, hG]
      unfold evQ
      rw [← c5_up (by decide), ← c5_up (by decide), c5_5]
      rfl
    · rw [va_up_ne _ _ e, va_up_ne _ _ e]
