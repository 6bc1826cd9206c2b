/-! what a day, a call does to the numbers -/
theorem fb_holes : ∀ (m n : Nat) (f : Nat → Nat), (∀ i, i < n → f i < m) → (∀ i j, i < j → j < n → f i ≠ f j) → n ≤ m := by
  intro m
  induction m with
  | zero =>
    intro n f h1 _
    rcases Nat.eq_zero_or_pos n with h | h
    · omega
    · exact absurd (h1 0 h) (Nat.not_lt_zero _)
  | succ m ih =>
    intro n f h1 h2
    by_cases hx : ∃ i, i < n ∧ f i = m
    · obtain ⟨a, ha, hfa⟩ := hx
      have hg := ih (n - 1) (fun i => if i < a then f i else f (i + 1)) (by
        intro i hi
        by_cases q : i < a
        · simp only [if_pos q]
          have b1 := h1 i (by omega)
          have b2 := h2 i a q ha
          omega
        · simp only [if_neg q]
          have b1 := h1 (i + 1) (by omega)
          have b2 := h2 a (i + 1) (by omega) (by omega)
          omega) (by
        intro i j hij hj
        by_cases q : i < a
        · by_cases r : j < a
          · simp only [if_pos q, if_pos r]
            exact h2 i j hij (by omega)
          · simp only [if_pos q, if_neg r]
            exact h2 i (j + 1) (by omega) (by omega)
        · have r : ¬ j < a := by omega
          simp only [if_neg q, if_neg r]
          exact h2 (i + 1) (j + 1) (by omega) (by omega))
      omega
    · have hg := ih n f (fun i hi => by
        have b1 := h1 i hi
        have b2 : f i ≠ m := fun e => hx ⟨i, hi, e⟩
        omega) h2
      omega
/-- from x the chain ends behind k houses -/
def Ter (N : Nat) (hs : Nat → Nat → Int32) : Nat → Int32 → Prop
  | 0, x => x = -1
  | k + 1, x => ∃ j, j < N ∧ x = nI j ∧ Ter N hs k (hs j 6)
theorem nI_m1 {j : Nat} (h : j < 2 ^ 31) : nI j ≠ -1 := by
  intro e
  have a := nI_toInt h
  rw [e] at a
  have b : (-1 : Int32).toInt = -1 := by decide
  omega
theorem nI_inj {a b : Nat} (ha : a < 2 ^ 31) (hb : b < 2 ^ 31) (h : nI a = nI b) : a = b := (nI_eq ha hb).mp h
theorem Ter.det {N : Nat} (hN : N ≤ 10) {hs : Nat → Nat → Int32} : ∀ {k k' : Nat} {x : Int32}, Ter N hs k x → Ter N hs k' x → k = k'
  | 0, 0, _, _, _ => rfl
  | 0, k' + 1, x, h, ⟨j, h1, h2, _⟩ => absurd (h2.symm.trans h) (nI_m1 (by omega))
  | k + 1, 0, x, ⟨j, h1, h2, _⟩, h => absurd (h2.symm.trans h) (nI_m1 (by omega))
  | k + 1, k' + 1, x, ⟨j, h1, h2, h3⟩, ⟨j', h1', h2', h3'⟩ => by
    have e : j = j' := nI_inj (by omega) (by omega) (h2.symm.trans h2')
    subst e
    rw [Ter.det hN h3 h3']
theorem Ter.congr {N : Nat} {hs hs' : Nat → Nat → Int32} (he : ∀ h, h < N → hs' h 6 = hs h 6) : ∀ {k : Nat} {x : Int32}, Ter N hs k x → Ter N hs' k x
  | 0, _, h => h
  | k + 1, x, ⟨j, h1, h2, h3⟩ => ⟨j, h1, h2, by rw [he j h1]; exact Ter.congr he h3⟩
/-- where the chain from x is behind i houses -/
def itx (hs : Nat → Nat → Int32) (x : Int32) : Nat → Int32
  | 0 => x
  | i + 1 => hs (itx hs x i).toNatClampNeg 6
theorem itx_step (hs : Nat → Nat → Int32) (x : Int32) (i : Nat) : itx hs x (i + 1) = itx hs (hs x.toNatClampNeg 6) i := by
  induction i with
  | zero => rfl
  | succ i ih => show hs (itx hs x (i + 1)).toNatClampNeg 6 = _; rw [ih]; rfl
theorem Ter.path {N : Nat} (hN : N ≤ 10) {hs : Nat → Nat → Int32} : ∀ {k : Nat} {x : Int32}, Ter N hs k x → ∀ i, i < k → (∃ j, j < N ∧ itx hs x i = nI j) ∧ Ter N hs (k - i) (itx hs x i)
  | 0, _, _, i, hi => absurd hi (Nat.not_lt_zero _)
  | k + 1, x, ⟨j, h1, h2, h3⟩, i, hi => by
    cases i with
    | zero => exact ⟨⟨j, h1, h2⟩, ⟨j, h1, h2, h3⟩⟩
    | succ i =>
      rw [itx_step, h2, nI_clamp (by omega)]
      have := Ter.path hN h3 i (by omega)
      rw [show k + 1 - (i + 1) = k - i by omega]
      exact this
theorem Ter.le {N : Nat} (hN : N ≤ 10) {hs : Nat → Nat → Int32} {k : Nat} {x : Int32} (h : Ter N hs k x) : k ≤ N := by
  refine fb_holes N k (fun i => (itx hs x i).toNatClampNeg) (fun i hi => ?_) (fun i j hij hj => ?_)
  · obtain ⟨⟨a, ha, he⟩, _⟩ := h.path hN i hi
    show (itx hs x i).toNatClampNeg < N
    rw [he, nI_clamp (by omega)]
    exact ha
  · intro e
    have e' : (itx hs x i).toNatClampNeg = (itx hs x j).toNatClampNeg := e
    obtain ⟨⟨a, ha, hea⟩, ta⟩ := h.path hN i (by omega)
    obtain ⟨⟨b, hb, heb⟩, tb⟩ := h.path hN j hj
    rw [hea, heb, nI_clamp (by omega), nI_clamp (by omega)] at e'
    rw [hea, e', ← heb] at ta
    have := ta.det hN tb
    omega
/-- what comes to x, down the chain: the houses behind it, and what is left -/
def pourS : Nat → (Nat → Nat → Int32) → Int32 → Int32 → (Nat → Nat → Int32) × Int32
  | 0, hs, _, a => (hs, a)
  | k + 1, hs, x, a => if x = -1 then (hs, a) else pourS k (va_up hs x.toNatClampNeg (takeF (hs x.toNatClampNeg) a)) (hs x.toNatClampNeg 6) (a - tkF (hs x.toNatClampNeg) a)
theorem pourS_m1 (k : Nat) (hs : Nat → Nat → Int32) (a : Int32) : pourS k hs (-1) a = (hs, a) := by
  cases k with
  | zero => rfl
  | succ k => unfold pourS; rw [if_pos rfl]
theorem pourS_nI {k j : Nat} (hj : j < 2 ^ 31) (hs : Nat → Nat → Int32) (a : Int32) : pourS (k + 1) hs (nI j) a = pourS k (va_up hs j (takeF (hs j) a)) (hs j 6) (a - tkF (hs j) a) := by
  rw [pourS, if_neg (nI_m1 hj), nI_clamp hj]
theorem take_o (f : Nat → Int32) (a : Int32) {w : Nat} (h : w ≠ 2) : takeF f a w = f w := upd_n _ _ h
theorem va_o {hs : Nat → Nat → Int32} {j : Nat} {f : Nat → Int32} {w : Nat} (h : f w = hs j w) (i : Nat) : va_up hs j f i w = hs i w := by
  by_cases e : i = j
  · subst e; rw [va_up_self, h]
  · rw [va_up_ne _ _ e]
theorem pourS_ter {N : Nat} (hN : N ≤ 10) : ∀ {k : Nat} {hs : Nat → Nat → Int32} {x a : Int32}, Ter N hs k x → ∀ n, k ≤ n → pourS n hs x a = pourS k hs x a
  | 0, hs, x, a, h, n, _ => by
    have h' : x = -1 := h
    rw [h', pourS_m1, pourS_m1]
  | k + 1, hs, x, a, ⟨j, h1, h2, h3⟩, n, hn => by
    obtain ⟨m, rfl⟩ : ∃ m, n = m + 1 := ⟨n - 1, by omega⟩
    rw [h2, pourS_nI (by omega), pourS_nI (by omega)]
    exact pourS_ter hN (h3.congr (fun h _ => va_o (take_o _ _ (by decide)) h)) m (by omega)
theorem pourS_keep : ∀ (k : Nat) (hs : Nat → Nat → Int32) (x a : Int32) (h w : Nat), w ≠ 2 → (pourS k hs x a).1 h w = hs h w
  | 0, _, _, _, _, _, _ => rfl
  | k + 1, hs, x, a, h, w, hw => by
    unfold pourS
    split
    · rfl
    · rw [pourS_keep k _ _ _ h w hw]
      exact va_o (take_o _ _ hw) h
theorem pourS_rg {N : Nat} (hN : N ≤ 10) : ∀ {k : Nat} {hs : Nat → Nat → Int32} {x a : Int32}, Ter N hs k x → (∀ h, h < N → rgH (hs h)) → 0 ≤ a.toInt → (∀ h, h < N → rgH ((pourS k hs x a).1 h)) ∧ 0 ≤ (pourS k hs x a).2.toInt ∧ (pourS k hs x a).2.toInt ≤ a.toInt
  | 0, hs, x, a, _, hr, ha => ⟨hr, ha, Int.le_refl _⟩
  | k + 1, hs, x, a, ⟨j, h1, h2, h3⟩, hr, ha => by
    rw [h2, pourS_nI (by omega)]
    obtain ⟨r1, r2, r3⟩ := (hr j h1).take ha
    have hm := a.toInt_lt
    have e : (a - tkF (hs j) a).toInt = a.toInt - (tkF (hs j) a).toInt := subI (by omega) (by omega)
    obtain ⟨q1, q2, q3⟩ := pourS_rg hN (a := a - tkF (hs j) a) (h3.congr (hs' := va_up hs j (takeF (hs j) a)) (fun h _ => va_o (take_o _ _ (by decide)) h)) (fun h hh => by
      by_cases e : h = j
      · subst e; rw [va_up_self]; exact r1
      · rw [va_up_ne _ _ e]; exact hr h hh) (by omega)
    exact ⟨q1, q2, by omega⟩
def pourA (S : tS) (x a : Int32) : Int32 := (pourS (sN S) (sH S) x a).2
def pourT (S : tS) (x a : Int32) : tS := (sN S, sP S, (pourS (sN S) (sH S) x a).1, sQ S, sF S, upd (sM S) 2 (sM S 2 + pourA S x a))
def rainA (w : Int32) (h : Nat) (S : tS) : Int32 := sH S h 0 * w * (10 - sH S h 5) / 10
def rainS (w : Int32) (h : Nat) (S : tS) : tS := pourT (setM S (upd (sM S) 1 (sM S 1 + rainA w h S))) (nI h) (rainA w h S)
def drinkS (h : Nat) (S : tS) : tS := (sN S, sP S, va_up (sH S) h (drinkF (sH S h)), sQ S, sF S, upd (sM S) 3 (sM S 3 + drkF (sH S h)))
def gardS (h : Nat) (S : tS) : tS := setH S (va_up (sH S) h (gardF (sH S h)))
def evA (S : tS) (p : Nat) : Nat := (sQ S p 0).toNatClampNeg
def evB (S : tS) (p : Nat) : Nat := (sQ S p 1).toNatClampNeg
def evF (S : tS) (p : Nat) : Int32 := flwF (sQ S p) (sH S (evA S p)) (sH S (evB S p))
def evM (S : tS) (p : Nat) : Int32 := sH S (evA S p) 2 * sH S (evB S p) 1 - sH S (evB S p) 2 * sH S (evA S p) 1
/-- the place in the table of who got what from whom -/
def evI (S : tS) (p : Nat) : Nat := if 0 < evM S p then 10 * evB S p + evA S p else 10 * evA S p + evB S p
def evenT (p : Nat) (S : tS) : tS := (sN S, sP S, va_up (va_up (sH S) (evA S p) (upd (sH S (evA S p)) 2 (sH S (evA S p) 2 - evF S p))) (evB S p) (upd (sH S (evB S p)) 2 (sH S (evB S p) 2 + evF S p)), va_up (sQ S) p (evQ (sQ S p) (sH S (evA S p)) (sH S (evB S p))), upd (sF S) (evI S p) (sF S (evI S p) + jabs (evF S p)), sM S)
def evenS (p : Nat) (S : tS) : tS := if sQ S p 3 = 0 then S else evenT p S
def clogS (lv : Int32) (h : Nat) (S : tS) : tS := setH S (va_up (sH S) h (clogF (sH S h) lv))
def dayN (S : tS) : Nat := (sM S 0).toNatClampNeg % 28
def day1 (ra : Nat → Int32) (S : tS) : tS := itr (rainS (ra (dayN S))) 0 (sN S) S
def day2 (ra : Nat → Int32) (S : tS) : tS := itr drinkS 0 (sN S) (day1 ra S)
def day3 (ra : Nat → Int32) (S : tS) : tS := itr gardS 0 (sN S) (day2 ra S)
def day4 (ra : Nat → Int32) (S : tS) : tS := itr evenS 0 (sP S) (day3 ra S)
def day5 (ra le : Nat → Int32) (S : tS) : tS := itr (clogS (le (dayN S))) 0 (sN S) (day4 ra S)
def dayS (ra le : Nat → Int32) (S : tS) : tS := setM (day5 ra le S) (upd (sM (day5 ra le S)) 0 (sM (day5 ra le S) 0 + 1))
/-- days go by -/
def daysS (ra le : Nat → Int32) (k : Nat) (S : tS) : tS := itr (fun _ => dayS ra le) 0 k S
def sumS (w : Nat) (S : tS) : Int32 := itr (fun i a => a + sH S i w) 0 (sN S) 0
def okQ (N : Nat) (q : Nat → Int32) : Prop := ∃ a b, a < N ∧ b < N ∧ a ≠ b ∧ q 0 = nI a ∧ q 1 = nI b ∧ 1 ≤ (q 2).toInt ∧ (q 2).toInt ≤ 50 ∧ isB (q 3)
/-- a village as it can be -/
def ok (S : tS) : Prop := sN S ≤ 10 ∧ sP S ≤ 12 ∧ (∀ h, h < sN S → rgH (sH S h)) ∧ (∀ p, p < sP S → okQ (sN S) (sQ S p)) ∧ (∀ h, h < sN S → ∃ k, Ter (sN S) (sH S) k (sH S h 6))
/-- the same houses and pipes, on the same day -/
def same (S T : tS) : Prop := sN T = sN S ∧ sP T = sP S ∧ sM T 0 = sM S 0
theorem same.rf {S : tS} : same S S := ⟨rfl, rfl, rfl⟩
theorem same.tr {S T U : tS} (h1 : same S T) (h2 : same T U) : same S U := ⟨h2.1.trans h1.1, h2.2.1.trans h1.2.1, h2.2.2.trans h1.2.2⟩
/-- houses changed in the fields that leave the rest as it is -/
theorem ok_hs {S : tS} {T : tS} (h : ok S) (hN : sN T = sN S) (hP : sP T = sP S) (hQ : sQ T = sQ S) (h6 : ∀ i, i < sN S → sH T i 6 = sH S i 6) (hr : ∀ i, i < sN S → rgH (sH T i)) : ok T := by
  obtain ⟨a, b, c, d, e⟩ := h
  refine ⟨by rw [hN]; exact a, by rw [hP]; exact b, fun i hi => hr i (hN ▸ hi), fun p hp => by rw [hN, hQ]; exact d p (hP ▸ hp), fun i hi => ?_⟩
  rw [hN] at hi ⊢
  obtain ⟨k, hk⟩ := e i hi
  exact ⟨k, by rw [h6 i hi]; exact hk.congr (fun j hj => h6 j hj)⟩
theorem ok_h1 {S : tS} {T : tS} {h : Nat} {f : Nat → Int32} (ho : ok S) (hN : sN T = sN S) (hP : sP T = sP S) (hQ : sQ T = sQ S) (hH : sH T = va_up (sH S) h f) (h6 : f 6 = sH S h 6) (hr : h < sN S → rgH f) : ok T := by
  refine ok_hs ho hN hP hQ (fun i hi => by rw [hH]; exact va_o h6 i) (fun i hi => ?_)
  rw [hH]
  by_cases e : i = h
  · subst e; rw [va_up_self]; exact hr hi
  · rw [va_up_ne _ _ e]; exact ho.2.2.1 i hi
theorem ok_M {S : tS} {m : Nat → Int32} (h : ok S) : ok (setM S m) := h
theorem ok_ter {S : tS} (h : ok S) {i : Nat} (hi : i < sN S) : ∃ k, k ≤ sN S ∧ Ter (sN S) (sH S) k (nI i) := by
  obtain ⟨k, hk⟩ := h.2.2.2.2 i hi
  have : Ter (sN S) (sH S) (k + 1) (nI i) := ⟨i, hi, rfl, hk⟩
  exact ⟨k + 1, this.le h.1, this⟩
theorem pourT_ok {S : tS} {i : Nat} {a : Int32} (h : ok S) (hi : i < sN S) (ha : 0 ≤ a.toInt) : ok (pourT S (nI i) a) ∧ 0 ≤ (pourA S (nI i) a).toInt ∧ (pourA S (nI i) a).toInt ≤ a.toInt := by
  obtain ⟨k, hk, ht⟩ := ok_ter h hi
  have e := pourS_ter h.1 (a := a) ht (sN S) hk
  obtain ⟨r1, r2, r3⟩ := pourS_rg h.1 ht h.2.2.1 ha
  refine ⟨ok_hs h rfl rfl rfl (fun j hj => pourS_keep _ _ _ _ j 6 (by decide)) (fun j hj => ?_), ?_, ?_⟩
  · show rgH ((pourS (sN S) (sH S) (nI i) a).1 j)
    rw [e]; exact r1 j hj
  · unfold pourA; rw [e]; exact r2
  · unfold pourA; rw [e]; exact r3
theorem rainA_ok {S : tS} {i : Nat} {w : Int32} (h : ok S) (hi : i < sN S) (hw : 0 ≤ w.toInt ∧ w.toInt ≤ 20) : 0 ≤ (rainA w i S).toInt ∧ (rainA w i S).toInt ≤ 6000 := by
  obtain ⟨a, _, _, _, _, c⟩ := h.2.2.1 i hi
  have m1 := mulLe (a := (sH S i 0).toInt) (b := w.toInt) (A := 30) (B := 20) (by omega) (by omega) (by omega) (by omega)
  have e1 : (sH S i 0 * w).toInt = (sH S i 0).toInt * w.toInt := mulI (by omega) (by omega)
  have e2 : (10 - sH S i 5).toInt = 10 - (sH S i 5).toInt := by rw [subI (by rw [li_10]; omega) (by rw [li_10]; omega), li_10]
  have m2 := mulLe (a := (sH S i 0).toInt * w.toInt) (b := 10 - (sH S i 5).toInt) (A := 600) (B := 10) (by omega) (by omega) (by omega) (by omega)
  have e3 : (sH S i 0 * w * (10 - sH S i 5)).toInt = (sH S i 0).toInt * w.toInt * (10 - (sH S i 5).toInt) := by rw [mulI (by rw [e1, e2]; omega) (by rw [e1, e2]; omega), e1, e2]
  have e4 : (rainA w i S).toInt = ((sH S i 0).toInt * w.toInt * (10 - (sH S i 5).toInt)).tdiv 10 := by unfold rainA; rw [divI (by decide), e3, li_10]
  have := tdivLe (a := (sH S i 0).toInt * w.toInt * (10 - (sH S i 5).toInt)) (b := 10) (by omega) (by decide)
  omega
theorem rainS_ok {S : tS} {i : Nat} {w : Int32} (h : ok S) (hi : i < sN S) (hw : 0 ≤ w.toInt ∧ w.toInt ≤ 20) : ok (rainS w i S) ∧ same S (rainS w i S) :=
  ⟨(pourT_ok (S := setM S (upd (sM S) 1 (sM S 1 + rainA w i S))) (ok_M h) hi (rainA_ok h hi hw).1).1, rfl, rfl, rfl⟩
theorem drinkS_ok {S : tS} {i : Nat} (h : ok S) : ok (drinkS i S) ∧ same S (drinkS i S) :=
  ⟨ok_h1 h rfl rfl rfl rfl (by simp [drinkF, upd]) (fun hi => (h.2.2.1 i hi).drink), rfl, rfl, rfl⟩
theorem gardF_6 (f : Nat → Int32) : gardF f 6 = f 6 := by
  unfold gardF
  split
  · simp [upd]
  · rfl
theorem gardS_ok {S : tS} {i : Nat} (h : ok S) : ok (gardS i S) ∧ same S (gardS i S) :=
  ⟨ok_h1 h rfl rfl rfl rfl (gardF_6 _) (fun hi => (h.2.2.1 i hi).gard), rfl, rfl, rfl⟩
theorem clogS_ok {S : tS} {i : Nat} {lv : Int32} (h : ok S) (hl : 0 ≤ lv.toInt ∧ lv.toInt ≤ 3) : ok (clogS lv i S) ∧ same S (clogS lv i S) :=
  ⟨ok_h1 h rfl rfl rfl rfl (by simp [clogF, upd]) (fun hi => (h.2.2.1 i hi).clog hl.1 hl.2), rfl, rfl, rfl⟩
/-- what a pipe's ends are -/
theorem okQ_ends {S : tS} {p : Nat} (h : ok S) (hp : p < sP S) : evA S p < sN S ∧ evB S p < sN S ∧ evA S p ≠ evB S p ∧ sQ S p 0 = nI (evA S p) ∧ sQ S p 1 = nI (evB S p) ∧ 1 ≤ (sQ S p 2).toInt ∧ (sQ S p 2).toInt ≤ 50 ∧ isB (sQ S p 3) := by
  obtain ⟨a, b, h1, h2, h3, h4, h5, h6, h7, h8⟩ := h.2.2.2.1 p hp
  have hN := h.1
  have ea : evA S p = a := by unfold evA; rw [h4, nI_clamp (by omega)]
  have eb : evB S p = b := by unfold evB; rw [h5, nI_clamp (by omega)]
  rw [ea, eb]
  exact ⟨h1, h2, h3, h4, h5, h6, h7, h8⟩
theorem evenT_ok {S : tS} {p : Nat} (h : ok S) (hp : p < sP S) : ok (evenT p S) := by
  obtain ⟨h1, h2, h3, h4, h5, h6, h7, h8⟩ := okQ_ends h hp
  obtain ⟨r1, r2⟩ := rgH.even (q := sQ S p) (h.2.2.1 _ h1) (h.2.2.1 _ h2) ⟨h6, h7⟩
  obtain ⟨a, b, c, d, e⟩ := id h
  have k6 : ∀ i, sH (evenT p S) i 6 = sH S i 6 := by
    intro i
    show va_up (va_up (sH S) (evA S p) _) (evB S p) _ i 6 = _
    by_cases e1 : i = evB S p
    · subst e1; rw [va_up_self, upd_n _ _ (by decide)]
    · rw [va_up_ne _ _ e1]
      exact va_o (upd_n _ _ (by decide)) i
  refine ⟨a, b, fun i hi => ?_, fun q hq => ?_, fun i hi => ?_⟩
  · show rgH (va_up (va_up (sH S) (evA S p) _) (evB S p) _ i)
    by_cases e1 : i = evB S p
    · subst e1; rw [va_up_self]; exact r2
    · rw [va_up_ne _ _ e1]
      by_cases e2 : i = evA S p
      · subst e2; rw [va_up_self]; exact r1
      · rw [va_up_ne _ _ e2]; exact c i hi
  · show okQ (sN S) (va_up (sQ S) p _ q)
    by_cases e1 : q = p
    · subst e1
      rw [va_up_self]
      obtain ⟨x, y, z⟩ := d q hp
      refine ⟨x, y, ?_⟩
      have g : ∀ w, w < 4 → evQ (sQ S q) (sH S (evA S q)) (sH S (evB S q)) w = sQ S q w := fun w hw => by
        unfold evQ; rw [upd_n _ _ (by omega), upd_n _ _ (by omega)]
      rw [g 0 (by decide), g 1 (by decide), g 2 (by decide), g 3 (by decide)]
      exact z
    · rw [va_up_ne _ _ e1]; exact d q hq
  · obtain ⟨k, hk⟩ := e i hi
    exact ⟨k, by rw [k6]; exact hk.congr (fun j _ => k6 j)⟩
theorem evenS_ok {S : tS} {p : Nat} (h : ok S) (hp : p < sP S) : ok (evenS p S) ∧ same S (evenS p S) := by
  unfold evenS
  split
  · exact ⟨h, same.rf⟩
  · exact ⟨evenT_ok h hp, rfl, rfl, rfl⟩
def wok (ra le : Nat → Int32) : Prop := (∀ d, d < 28 → 0 ≤ (ra d).toInt ∧ (ra d).toInt ≤ 20) ∧ ∀ d, d < 28 → 0 ≤ (le d).toInt ∧ (le d).toInt ≤ 3
theorem itr_ok {f : Nat → tS → tS} {S0 : tS} {K : Nat} (hf : ∀ i S, i < K → ok S → same S0 S → ok (f i S) ∧ same S (f i S)) {S : tS} (h : ok S) (hs : same S0 S) : ok (itr f 0 K S) ∧ same S0 (itr f 0 K S) :=
  itr_inv f (fun _ T => ok T ∧ same S0 T) K (fun i T hi hT => by
    obtain ⟨a, b⟩ := hf i T hi hT.1 hT.2
    exact ⟨a, hT.2.tr b⟩) K 0 S (by omega) ⟨h, hs⟩
section DAY
variable {ra le : Nat → Int32} {S : tS}
theorem dayN_lt (S : tS) : dayN S < 28 := Nat.mod_lt _ (by decide)
theorem day1_ok (hw : wok ra le) (h : ok S) : ok (day1 ra S) ∧ same S (day1 ra S) := itr_ok (fun i T hi hT hs => rainS_ok hT (by rw [hs.1]; exact hi) (hw.1 _ (dayN_lt S))) h same.rf
theorem day2_ok (hw : wok ra le) (h : ok S) : ok (day2 ra S) ∧ same S (day2 ra S) := by
  obtain ⟨a, b⟩ := day1_ok hw h
  exact itr_ok (fun i T hi hT hs => drinkS_ok hT) a b
theorem day3_ok (hw : wok ra le) (h : ok S) : ok (day3 ra S) ∧ same S (day3 ra S) := by
  obtain ⟨a, b⟩ := day2_ok hw h
  exact itr_ok (fun i T hi hT hs => gardS_ok hT) a b
theorem day4_ok (hw : wok ra le) (h : ok S) : ok (day4 ra S) ∧ same S (day4 ra S) := by
  obtain ⟨a, b⟩ := day3_ok hw h
  exact itr_ok (fun i T hi hT hs => evenS_ok hT (by rw [hs.2.1]; exact hi)) a b
theorem day5_ok (hw : wok ra le) (h : ok S) : ok (day5 ra le S) ∧ same S (day5 ra le S) := by
  obtain ⟨a, b⟩ := day4_ok hw h
  exact itr_ok (fun i T hi hT hs => clogS_ok hT (hw.2 _ (dayN_lt S))) a b
theorem dayS_ok (hw : wok ra le) (h : ok S) : ok (dayS ra le S) ∧ sN (dayS ra le S) = sN S ∧ sP (dayS ra le S) = sP S ∧ sM (dayS ra le S) 0 = sM S 0 + 1 := by
  obtain ⟨a, b⟩ := day5_ok hw h
  exact ⟨ok_M a, b.1, b.2.1, by unfold dayS; show upd (sM (day5 ra le S)) 0 (sM (day5 ra le S) 0 + 1) 0 = _; rw [upd_s, b.2.2]⟩
theorem daysS_ok (hw : wok ra le) (h : ok S) {d : Nat} (hd : sM S 0 = nI d) (k : Nat) : ok (daysS ra le k S) ∧ sN (daysS ra le k S) = sN S ∧ sP (daysS ra le k S) = sP S ∧ sM (daysS ra le k S) 0 = nI (d + k) := by
  induction k with
  | zero => exact ⟨h, rfl, rfl, hd⟩
  | succ k ih =>
    have e : daysS ra le (k + 1) S = dayS ra le (daysS ra le k S) := itr_last _ k 0 S
    rw [e]
    obtain ⟨a, b, c, f⟩ := ih
    obtain ⟨a', b', c', f'⟩ := dayS_ok hw a
    exact ⟨a', b'.trans b, c'.trans c, by rw [f', f]; exact nI_1 _⟩
theorem daysS_succ (k : Nat) : daysS ra le (k + 1) S = dayS ra le (daysS ra le k S) := itr_last _ k 0 S
end DAY

def hasB (N : Nat) (x : Int32) : Int32 := if x < 0 then 0 else if nI N ≤ x then 0 else 1
theorem hasB_1 {N j : Nat} (hj : j < N) (hN : N < 2 ^ 31) : hasB N (nI j) = 1 := by
  unfold hasB
  rw [if_neg (nI_pos (by omega)), if_neg (nI_ge hj hN)]
theorem hasB_m1 (N : Nat) : hasB N (-1) = 0 := by
  unfold hasB
  rw [if_pos (by decide)]
theorem hasB_c (N : Nat) (hN : N < 2 ^ 31) (x : Int32) : (∃ j, j < N ∧ x = nI j ∧ hasB N x = 1) ∨ (hasB N x = 0 ∧ ∀ j, j < N → x ≠ nI j) := by
  rcases pk_ix x hN with h | h | ⟨j, h1, h2⟩
  · exact Or.inr ⟨by unfold hasB; rw [if_pos h], fun j hj e => by rw [e] at h; exact nI_pos (by omega) h⟩
  · refine Or.inr ⟨by unfold hasB; rw [if_pos h]; split <;> rfl, fun j hj e => by rw [e] at h; exact nI_ge hj hN h⟩
  · exact Or.inl ⟨j, h1, h2, by rw [h2]; exact hasB_1 h1 hN⟩
def dfH : Nat → Int32 := upd (fun _ => 0) 6 (-1)
def newH (r h p g : Int32) : Nat → Int32 := upd (upd (upd (upd dfH 0 r) 1 h) 3 p) 4 g
def buildT (r h p g : Int32) (S : tS) : tS := (sN S + 1, sP S, va_up (sH S) (sN S) (newH r h p g), sQ S, sF S, sM S)
def dfQ : Nat → Int32 := fun _ => 0
def newQ (a b l : Int32) : Nat → Int32 := upd (upd (upd (upd dfQ 0 a) 1 b) 2 l) 3 1
def layT (a b l : Int32) (S : tS) : tS := (sN S, sP S + 1, sH S, va_up (sQ S) (sP S) (newQ a b l), sF S, sM S)
/-- whether the chain from x comes through y -/
def thru : Nat → (Nat → Nat → Int32) → Int32 → Int32 → Bool
  | 0, _, _, _ => false
  | k + 1, hs, x, y => if x = -1 then false else if x = y then true else thru k hs (hs x.toNatClampNeg 6) y
theorem thru_nI {k j : Nat} (hj : j < 2 ^ 31) (hs : Nat → Nat → Int32) (y : Int32) : thru (k + 1) hs (nI j) y = if nI j = y then true else thru k hs (hs j 6) y := by
  rw [thru, if_neg (nI_m1 hj), nI_clamp hj]
def bI (b : Bool) : Int32 := if b = true then 1 else 0
def debtS (x y : Int32) (S : tS) : Int32 := itr (fun p a => a + debtF (sQ S p) x y) 0 (sP S) 0
def openS (S : tS) : Int32 := itr (fun p a => a + sQ S p 3) 0 (sP S) 0
def totalS (S : tS) : Nat → Int32
  | 0 => sM S 0
  | 1 => nI (sN S)
  | 2 => nI (sP S)
  | 3 => sumS 2 S
  | 4 => sumS 7 S
  | 5 => sM S 1
  | 6 => sM S 2
  | 7 => sM S 3
  | 8 => sumS 8 S
  | 9 => sM S 4
  | _ => openS S
/-- the first day with thirst of house j, and the village then -/
def dtt (ra le : Nat → Int32) (j : Nat) (b : Int32) : Nat → Nat → tS → Int32 × tS
  | 0, _, S => (-1, S)
  | k + 1, i, S => if sH (dayS ra le S) j 9 = b then dtt ra le j b k (i + 1) (dayS ra le S) else (nI i, dayS ra le S)
theorem itr_up {b : Nat} {e : Nat → va_E} : ∀ (N i : Nat) (g : Nat → va_E) (k : Nat), itr (fun i g' => va_up g' (b + i) (e i)) i N g k = if b + i ≤ k ∧ k < b + i + N then e (k - b) else g k
  | 0, i, g, k => by rw [if_neg (by omega)]; rfl
  | N + 1, i, g, k => by
    show itr (fun i g' => va_up g' (b + i) (e i)) (i + 1) N (va_up g (b + i) (e i)) k = _
    rw [itr_up N (i + 1) _ k]
    by_cases h1 : b + (i + 1) ≤ k ∧ k < b + (i + 1) + N
    · rw [if_pos h1, if_pos (by omega)]
    · rw [if_neg h1]
      by_cases h2 : k = b + i
      · subst h2; rw [va_up_self, if_pos (by omega), show b + i - b = i by omega]
      · rw [va_up_ne _ _ h2, if_neg (by omega)]
theorem gV_add {cy : Nat → ClassId} {ad : Nat → Nat} {B : Nat} {S : tS} {g0 : Nat → va_E} {f : Nat → Int32} (hN : sN S < 10) : va_up (va_up (gV cy ad B S g0) (B + 3 + sN S) (cH f)) B (cV ad B (sN S + 1, sP S, va_up (sH S) (sN S) f, sQ S, sF S, sM S)) = gV cy ad B (sN S + 1, sP S, va_up (sH S) (sN S) f, sQ S, sF S, sM S) g0 := by
  funext k
  by_cases h0 : k = B
  · subst h0; rw [va_up_self]; unfold gV; rw [if_pos rfl]
  rw [va_up_ne _ _ h0]
  by_cases h1 : k = B + 3 + sN S
  · subst h1
    rw [va_up_self]
    unfold gV
    rw [if_neg (by omega), if_neg (by omega), if_neg (by omega), if_pos ⟨by omega, show _ < B + 3 + (sN S + 1) by omega⟩]
    show cH f = cH (va_up (sH S) (sN S) f (B + 3 + sN S - (B + 3)))
    rw [show B + 3 + sN S - (B + 3) = sN S by omega, va_up_self]
  · rw [va_up_ne _ _ h1]
    unfold gV
    by_cases h3 : k = B + 1
    · simp only [if_neg h0, if_pos h3]
    by_cases h4 : k = B + 2
    · simp only [if_neg h0, if_neg h3, if_pos h4]
    simp only [if_neg h0, if_neg h3, if_neg h4]
    by_cases h5 : B + 3 ≤ k ∧ k < B + 3 + sN S
    · rw [if_pos h5, if_pos (show B + 3 ≤ k ∧ k < B + 3 + (sN S + 1) by omega)]
      show _ = cH (va_up (sH S) (sN S) f (k - (B + 3)))
      rw [va_up_ne _ _ (by omega)]
    · rw [if_neg h5, if_neg (show ¬ (B + 3 ≤ k ∧ k < B + 3 + (sN S + 1)) by omega)]
theorem gV_addP {cy : Nat → ClassId} {ad : Nat → Nat} {B : Nat} {S : tS} {g0 : Nat → va_E} {f : Nat → Int32} (hN : sN S ≤ 10) (hP : sP S < 12) : va_up (va_up (gV cy ad B S g0) (B + 13 + sP S) (cP f)) B (cV ad B (sN S, sP S + 1, sH S, va_up (sQ S) (sP S) f, sF S, sM S)) = gV cy ad B (sN S, sP S + 1, sH S, va_up (sQ S) (sP S) f, sF S, sM S) g0 := by
  funext k
  by_cases h0 : k = B
  · subst h0; rw [va_up_self]; unfold gV; rw [if_pos rfl]
  rw [va_up_ne _ _ h0]
  by_cases h1 : k = B + 13 + sP S
  · subst h1
    rw [va_up_self]
    unfold gV
    rw [if_neg (by omega), if_neg (by omega), if_neg (by omega), if_neg (show ¬ (B + 3 ≤ B + 13 + sP S ∧ B + 13 + sP S < B + 3 + sN S) by omega), if_pos ⟨by omega, show _ < B + 13 + (sP S + 1) by omega⟩]
    show cP f = cP (va_up (sQ S) (sP S) f (B + 13 + sP S - (B + 13)))
    rw [show B + 13 + sP S - (B + 13) = sP S by omega, va_up_self]
  · rw [va_up_ne _ _ h1]
    unfold gV
    by_cases h3 : k = B + 1
    · simp only [if_neg h0, if_pos h3]
    by_cases h4 : k = B + 2
    · simp only [if_neg h0, if_neg h3, if_pos h4]
    simp only [if_neg h0, if_neg h3, if_neg h4]
    by_cases h5 : B + 3 ≤ k ∧ k < B + 3 + sN S
    · rw [if_pos h5, if_pos (show B + 3 ≤ k ∧ k < B + 3 + sN S from h5)]
    · rw [if_neg h5, if_neg (show ¬ (B + 3 ≤ k ∧ k < B + 3 + sN S) from h5)]
      by_cases h6 : B + 13 ≤ k ∧ k < B + 13 + sP S
      · rw [if_pos h6, if_pos (show B + 13 ≤ k ∧ k < B + 13 + (sP S + 1) by omega)]
        show _ = cP (va_up (sQ S) (sP S) f (k - (B + 13)))
        rw [va_up_ne _ _ (by omega)]
      · rw [if_neg h6, if_neg (show ¬ (B + 13 ≤ k ∧ k < B + 13 + (sP S + 1)) by omega)]
/-- a village's cells, of any content -/
def VB (cy : Nat → ClassId) (ad : Nat → Nat) (n : Nat) (g : Nat → va_E) (B : Nat) : Prop := B + 25 ≤ n ∧ (∃ S, g B = cV ad B S) ∧ g (B + 1) = cHA cy ad B ∧ g (B + 2) = cPA cy ad B ∧ (∀ i, i < 10 → ∃ f, g (B + 3 + i) = cH f) ∧ ∀ i, i < 12 → ∃ f, g (B + 13 + i) = cP f
