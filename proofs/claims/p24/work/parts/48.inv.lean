/-! what stays true: debts, chains, ranges -/
def dbJ (S : tS) : Prop := ∀ a b, a < 10 → b < 10 → debtS (nI a) (nI b) S = sF S (10 * a + b) - sF S (10 * b + a)
theorem dbJ.to {S T : tS} (h : dbJ S) (hP : sP T = sP S) (hQ : ∀ p, p < sP S → ∀ x y, debtF (sQ T p) x y = debtF (sQ S p) x y) (hF : sF T = sF S) : dbJ T := by
  intro a b ha hb
  rw [hF, ← h a b ha hb]
  unfold debtS
  rw [hP]
  exact itr_congr (fun _ _ => True) (sP S) (fun _ _ _ _ => trivial) (fun i s hi _ => by rw [hQ i hi]) (sP S) 0 0 (Nat.zero_add _) trivial
theorem dbJ.qf {S T : tS} (h : dbJ S) (hP : sP T = sP S) (hQ : sQ T = sQ S) (hF : sF T = sF S) : dbJ T := h.to hP (fun p _ x y => by rw [hQ]) hF
theorem asub1 (a b : Int32) : -(a + b) - -a = -b := by
  rw [Int32.neg_add, Int32.sub_neg, Int32.sub_eq_add_neg, Int32.add_assoc, Int32.add_comm (-b) a, ← Int32.add_assoc, Int32.add_left_neg, Int32.zero_add]
theorem dbJ_even {S : tS} {p : Nat} (ho : ok S) (hp : p < sP S) (h : dbJ S) : dbJ (evenS p S) := by
  unfold evenS
  split
  · exact h
  obtain ⟨hA, hB, hAB, q0, q1, hl1, hl2, hb⟩ := okQ_ends ho hp
  have hN := ho.1
  obtain ⟨e1, e2, e3, -⟩ := goF_ok (q := sQ S p) (ho.2.2.1 _ hA) (ho.2.2.1 _ hB) ⟨hl1, hl2⟩
  intro a b ha hb
  have hd : debtS (nI a) (nI b) (evenT p S) = debtS (nI a) (nI b) S + (debtF (evQ (sQ S p) (sH S (evA S p)) (sH S (evB S p))) (nI a) (nI b) - debtF (sQ S p) (nI a) (nI b)) := by
    show itr (fun p' acc => acc + debtF (va_up (sQ S) p (evQ (sQ S p) (sH S (evA S p)) (sH S (evB S p))) p') (nI a) (nI b)) 0 (sP S) 0 = _
    have e : (fun p' (acc : Int32) => acc + debtF (va_up (sQ S) p (evQ (sQ S p) (sH S (evA S p)) (sH S (evB S p))) p') (nI a) (nI b)) = (fun i (acc : Int32) => acc + va_up (fun i (_ : Nat) => debtF (sQ S i) (nI a) (nI b)) p (fun _ => debtF (evQ (sQ S p) (sH S (evA S p)) (sH S (evB S p))) (nI a) (nI b)) i 0) := by
      funext i acc
      by_cases c : i = p
      · subst c; rw [va_up_self, va_up_self]
      · rw [va_up_ne _ _ c, va_up_ne _ _ c]
    rw [e, its_up, if_pos (by omega)]
    rfl
  rw [hd, h a b ha hb]
  have g0 : evQ (sQ S p) (sH S (evA S p)) (sH S (evB S p)) 0 = nI (evA S p) := by unfold evQ; rw [upd_n _ _ (by decide), upd_n _ _ (by decide)]; exact q0
  have g1 : evQ (sQ S p) (sH S (evA S p)) (sH S (evB S p)) 1 = nI (evB S p) := by unfold evQ; rw [upd_n _ _ (by decide), upd_n _ _ (by decide)]; exact q1
  have g5 : evQ (sQ S p) (sH S (evA S p)) (sH S (evB S p)) 5 = sQ S p 5 + evF S p := by unfold evQ; rw [upd_n _ _ (by decide), upd_s]; rfl
  have inj : ∀ x y : Nat, x < 10 → y < 10 → (nI x = nI y ↔ x = y) := fun x y hx hy => nI_eq (by omega) (by omega)
  show _ = upd (sF S) (evI S p) (sF S (evI S p) + jabs (evF S p)) (10 * a + b) - upd (sF S) (evI S p) (sF S (evI S p) + jabs (evF S p)) (10 * b + a)
  generalize hAA : evA S p = A at *
  generalize hBB : evB S p = B at *
  have jF : jabs (evF S p) = goF (sQ S p) (sH S A) (sH S B) := by unfold evF; rw [hAA, hBB]; exact e1
  have F1 : 0 < evM S p → evF S p = goF (sQ S p) (sH S A) (sH S B) := fun q => by unfold evF; rw [hAA, hBB]; exact e2 (by unfold evM at q; rw [hAA, hBB] at q; exact q)
  have F2 : ¬ 0 < evM S p → evF S p = -goF (sQ S p) (sH S A) (sH S B) := fun q => by unfold evF; rw [hAA, hBB]; exact e3 (by unfold evM at q; rw [hAA, hBB] at q; exact q)
  unfold debtF
  rw [g0, g1, g5, q0, q1, jF]
  have iE : evI S p = if 0 < evM S p then 10 * B + A else 10 * A + B := by unfold evI; rw [hAA, hBB]
  rw [iE]
  have s1 : ∀ x y z : Int32, x + z - y = x - y + z := fun x y z => by rw [Int32.sub_eq_add_neg, Int32.sub_eq_add_neg, Int32.add_assoc, Int32.add_comm z, ← Int32.add_assoc]
  have s2 : ∀ x y z : Int32, x - (y + z) = x - y + -z := fun x y z => by rw [Int32.sub_eq_add_neg, Int32.sub_eq_add_neg, Int32.neg_add, Int32.sub_eq_add_neg, Int32.add_assoc]
  by_cases c1 : a = B ∧ b = A
  · obtain ⟨rfl, rfl⟩ := c1
    rw [if_pos ⟨rfl, rfl⟩, if_pos ⟨rfl, rfl⟩, asub0]
    by_cases hm : 0 < evM S p
    · rw [if_pos hm, upd_s, upd_n _ _ (by omega), F1 hm, s1]
    · rw [if_neg hm, upd_n _ _ (by omega), upd_s, F2 hm, s2]
  · have n1 : ¬ (nI a = nI B ∧ nI b = nI A) := fun q => c1 ⟨(inj a B ha (by omega)).mp q.1, (inj b A hb (by omega)).mp q.2⟩
    by_cases c2 : a = A ∧ b = B
    · obtain ⟨rfl, rfl⟩ := c2
      rw [if_neg n1, if_neg n1, if_pos ⟨rfl, rfl⟩, if_pos ⟨rfl, rfl⟩, asub1]
      by_cases hm : 0 < evM S p
      · rw [if_pos hm, upd_n _ _ (by omega), upd_s, F1 hm, s2]
      · rw [if_neg hm, upd_s, upd_n _ _ (by omega), F2 hm, s1, Int32.neg_neg]
    · have n2 : ¬ (nI a = nI A ∧ nI b = nI B) := fun q => c2 ⟨(inj a A ha (by omega)).mp q.1, (inj b B hb (by omega)).mp q.2⟩
      rw [if_neg n1, if_neg n1, if_neg n2, if_neg n2, Int32.sub_self, Int32.add_zero]
      split
      · rw [upd_n _ _ (by omega), upd_n _ _ (by omega)]
      · rw [upd_n _ _ (by omega), upd_n _ _ (by omega)]
theorem db_itr {f : Nat → tS → tS} {S0 : tS} {K : Nat} (hf : ∀ i T, i < K → ok T → same S0 T → dbJ T → (ok (f i T) ∧ same T (f i T)) ∧ dbJ (f i T)) {S : tS} (ho : ok S) (hs : same S0 S) (hd : dbJ S) : dbJ (itr f 0 K S) :=
  (itr_inv f (fun _ T => ok T ∧ same S0 T ∧ dbJ T) K (fun i T hi hT => by
    obtain ⟨⟨b1, b2⟩, b3⟩ := hf i T hi hT.1 hT.2.1 hT.2.2
    exact ⟨b1, hT.2.1.tr b2, b3⟩) K 0 S (Nat.zero_add _) ⟨ho, hs, hd⟩).2.2
theorem db_day {ra le : Nat → Int32} (hwk : wok ra le) {S : tS} (ho : ok S) (h : dbJ S) : dbJ (dayS ra le S) := by
  obtain ⟨o1, s1⟩ := day1_ok (ra := ra) (le := le) hwk ho
  obtain ⟨o2, s2⟩ := day2_ok (ra := ra) (le := le) hwk ho
  obtain ⟨o3, s3⟩ := day3_ok (ra := ra) (le := le) hwk ho
  obtain ⟨o4, s4⟩ := day4_ok (ra := ra) (le := le) hwk ho
  have k1 : dbJ (day1 ra S) := db_itr (S0 := S) (fun i T hi hT hs hd => ⟨rainS_ok hT (by rw [hs.1]; exact hi) (hwk.1 _ (dayN_lt S)), hd.qf rfl rfl rfl⟩) ho same.rf h
  have k2 : dbJ (day2 ra S) := db_itr (S0 := S) (fun i T hi hT hs hd => ⟨drinkS_ok hT, hd.qf rfl rfl rfl⟩) o1 s1 k1
  have k3 : dbJ (day3 ra S) := db_itr (S0 := S) (fun i T hi hT hs hd => ⟨gardS_ok hT, hd.qf rfl rfl rfl⟩) o2 s2 k2
  have k4 : dbJ (day4 ra S) := db_itr (S0 := S) (fun i T hi hT hs hd => ⟨evenS_ok hT (by rw [hs.2.1]; exact hi), dbJ_even hT (by rw [hs.2.1]; exact hi) hd⟩) o3 s3 k3
  have k5 : dbJ (day5 ra le S) := db_itr (S0 := S) (fun i T hi hT hs hd => ⟨clogS_ok hT (hwk.2 _ (dayN_lt S)), hd.qf rfl rfl rfl⟩) o4 s4 k4
  exact k5.qf rfl rfl rfl
theorem db_days {ra le : Nat → Int32} (hwk : wok ra le) {S : tS} (ho : ok S) (h : dbJ S) (k : Nat) : dbJ (daysS ra le k S) :=
  (itr_inv (fun _ => dayS ra le) (fun _ T => ok T ∧ dbJ T) k (fun i T hi hT => ⟨(dayS_ok hwk hT.1).1, db_day hwk hT.1 hT.2⟩) k 0 S (Nat.zero_add _) ⟨ho, h⟩).2
theorem db_lay {S : tS} {a b v : Int32} (h : dbJ S) : dbJ (layT a b v S) := by
  intro x y hx hy
  show itr (fun p acc => acc + debtF (va_up (sQ S) (sP S) (newQ a b v) p) (nI x) (nI y)) 0 (sP S + 1) 0 = _
  rw [itr_last]
  have e : itr (fun p acc => acc + debtF (va_up (sQ S) (sP S) (newQ a b v) p) (nI x) (nI y)) 0 (sP S) 0 = debtS (nI x) (nI y) S :=
    itr_congr (fun _ _ => True) (sP S) (fun _ _ _ _ => trivial) (fun i s hi _ => by rw [va_up_ne _ _ (by omega)]) (sP S) 0 0 (Nat.zero_add _) trivial
  rw [e, Nat.zero_add, va_up_self]
  have z : debtF (newQ a b v) (nI x) (nI y) = 0 := by
    have z5 : newQ a b v 5 = 0 := rfl
    unfold debtF
    rw [z5]
    split
    · rfl
    · split
      · decide
      · rfl
  rw [z, Int32.add_zero]
  exact h x y hx hy
/-! chains -/
theorem Ter.off {N : Nat} (hN : N ≤ 10) {hs : Nat → Nat → Int32} {h : Nat} {f : Nat → Int32} (hh : h < N) : ∀ {k : Nat} {x : Int32}, Ter N hs k x → thru k hs x (nI h) = false → Ter N (va_up hs h f) k x
  | 0, _, h1, _ => h1
  | k + 1, x, ⟨j, h1, h2, h3⟩, ht => by
    subst h2
    rw [thru_nI (by omega)] at ht
    by_cases c : nI j = nI h
    · rw [if_pos c] at ht; cases ht
    · rw [if_neg c] at ht
      have cj : j ≠ h := fun q => c (by rw [q])
      exact ⟨j, h1, rfl, by rw [va_up_ne _ _ cj]; exact Ter.off hN hh h3 ht⟩
theorem Ter.join {N : Nat} {hs : Nat → Nat → Int32} {h ko : Nat} {f : Nat → Int32} (ho : Ter N (va_up hs h f) ko (f 6)) : ∀ {k : Nat} {x : Int32}, Ter N hs k x → ∃ k', Ter N (va_up hs h f) k' x
  | 0, x, h1 => ⟨0, h1⟩
  | k + 1, x, ⟨j, h1, h2, h3⟩ => by
    by_cases c : j = h
    · subst c
      exact ⟨ko + 1, j, h1, h2, by rw [va_up_self]; exact ho⟩
    · obtain ⟨k', hk'⟩ := Ter.join ho h3
      exact ⟨k' + 1, j, h1, h2, by rw [va_up_ne _ _ c]; exact hk'⟩
theorem chT_ok {S : tS} {h k : Nat} {o : Int32} (ho : ok S) (hh : h < sN S) (ht : Ter (sN S) (sH S) k o) (h4 : thru k (sH S) o (nI h) = false) : ok (chT h o S) ∧ Ter (sN S) (sH (chT h o S)) k o := by
  have hT : Ter (sN S) (va_up (sH S) h (upd (sH S h) 6 o)) k o := Ter.off ho.1 hh ht h4
  refine ⟨⟨ho.1, ho.2.1, fun i hi => ?_, ho.2.2.2.1, fun i hi => ?_⟩, hT⟩
  · show rgH (va_up (sH S) h _ i)
    by_cases c : i = h
    · subst c; rw [va_up_self]; exact (ho.2.2.1 i hi).o (by decide)
    · rw [va_up_ne _ _ c]; exact ho.2.2.1 i hi
  · show ∃ k, Ter (sN S) (va_up (sH S) h _) k (va_up (sH S) h _ i 6)
    by_cases c : i = h
    · subst c
      rw [va_up_self, upd_s]
      exact ⟨k, hT⟩
    · rw [va_up_ne _ _ c]
      obtain ⟨k1, h1⟩ := ho.2.2.2.2 i hi
      exact Ter.join (by rw [upd_s]; exact hT) h1
theorem Ter.more {N : Nat} {hs : Nat → Nat → Int32} {f : Nat → Int32} : ∀ {k : Nat} {x : Int32}, Ter N hs k x → Ter (N + 1) (va_up hs N f) k x
  | 0, _, h => h
  | k + 1, x, ⟨j, h1, h2, h3⟩ => ⟨j, by omega, h2, by rw [va_up_ne _ _ (by omega)]; exact Ter.more h3⟩
theorem buildT_ok {S : tS} {r h p q : Int32} (ho : ok S) (hN : sN S < 10) (h1 : IN r 1 30) (h2 : IN h 10 900) (h3 : IN p 0 9) (h4 : IN q 0 20) : ok (buildT r h p q S) := by
  have i1 := h1.i
  have i2 := h2.i
  have i3 := h3.i
  have i4 := h4.i
  have c1 : (1 : Int32).toInt = 1 := by decide
  have c30 : (30 : Int32).toInt = 30 := by decide
  have c10 : (10 : Int32).toInt = 10 := by decide
  have c900 : (900 : Int32).toInt = 900 := by decide
  have c0 : (0 : Int32).toInt = 0 := by decide
  have c9 : (9 : Int32).toInt = 9 := by decide
  have c20 : (20 : Int32).toInt = 20 := by decide
  rw [c1, c30] at i1
  rw [c10, c900] at i2
  rw [c0, c9] at i3
  rw [c0, c20] at i4
  refine ⟨by show sN S + 1 ≤ 10; omega, ho.2.1, fun i hi => ?_, fun i hi => ?_, fun i hi => ?_⟩
  · show rgH (va_up (sH S) (sN S) (newH r h p q) i)
    by_cases c : i = sN S
    · subst c
      rw [va_up_self]
      have e0 : newH r h p q 0 = r := rfl
      have e1 : newH r h p q 1 = h := rfl
      have e2 : newH r h p q 2 = 0 := rfl
      have e3 : newH r h p q 3 = p := rfl
      have e4 : newH r h p q 4 = q := rfl
      have e5 : newH r h p q 5 = 0 := rfl
      unfold rgH
      rw [e0, e1, e2, e3, e4, e5, c0]
      omega
    · rw [va_up_ne _ _ c]
      exact ho.2.2.1 i (by have : i < sN S + 1 := hi; omega)
  · obtain ⟨x, y, z1, z2, z3, z4⟩ := ho.2.2.2.1 i hi
    exact ⟨x, y, by show x < sN S + 1; omega, by show y < sN S + 1; omega, z3, z4⟩
  · show ∃ k, Ter (sN S + 1) (va_up (sH S) (sN S) (newH r h p q)) k (va_up (sH S) (sN S) (newH r h p q) i 6)
    by_cases c : i = sN S
    · subst c
      rw [va_up_self]
      exact ⟨0, rfl⟩
    · rw [va_up_ne _ _ c]
      obtain ⟨k1, hk1⟩ := ho.2.2.2.2 i (by have : i < sN S + 1 := hi; omega)
      exact ⟨k1, hk1.more⟩
theorem layT_ok {S : tS} {a b : Nat} {v : Int32} (ho : ok S) (ha : a < sN S) (hb : b < sN S) (hab : a ≠ b) (hv : IN v 1 50) (hP : sP S < 12) : ok (layT (nI a) (nI b) v S) := by
  have i1 := hv.i
  have c1 : (1 : Int32).toInt = 1 := by decide
  have c50 : (50 : Int32).toInt = 50 := by decide
  rw [c1, c50] at i1
  refine ⟨ho.1, by show sP S + 1 ≤ 12; omega, ho.2.2.1, fun i hi => ?_, ho.2.2.2.2⟩
  show okQ (sN S) (va_up (sQ S) (sP S) (newQ (nI a) (nI b) v) i)
  by_cases c : i = sP S
  · subst c
    rw [va_up_self]
    exact ⟨a, b, ha, hb, hab, rfl, rfl, i1.1, i1.2, Or.inr rfl⟩
  · rw [va_up_ne _ _ c]
    exact ho.2.2.2.1 i (by have : i < sP S + 1 := hi; omega)
theorem peT_ok {S : tS} {h : Nat} {w : Int32} (ho : ok S) (hw : IN w 0 9) : ok (peT h w S) := by
  have i1 := hw.i
  have c0 : (0 : Int32).toInt = 0 := by decide
  have c9 : (9 : Int32).toInt = 9 := by decide
  rw [c0, c9] at i1
  refine ok_h1 ho rfl rfl rfl rfl (upd_n _ _ (by decide)) (fun hh => ?_)
  obtain ⟨a, b, c, d, e, f⟩ := ho.2.2.1 h hh
  unfold rgH
  rw [upd_n _ _ (by decide), upd_n _ _ (by decide), upd_n _ _ (by decide), upd_s, upd_n _ _ (by decide), upd_n _ _ (by decide)]
  exact ⟨a, b, c, i1, e, f⟩
theorem wok_set {ra le : Nat → Int32} {j : Nat} {r e : Int32} (h : wok ra le) (hr : IN r 0 20) (he : IN e 0 3) : wok (upd ra j r) (upd le j e) := by
  have i1 := hr.i
  have i2 := he.i
  have c0 : (0 : Int32).toInt = 0 := by decide
  have c20 : (20 : Int32).toInt = 20 := by decide
  have c3 : (3 : Int32).toInt = 3 := by decide
  rw [c0, c20] at i1
  rw [c0, c3] at i2
  refine ⟨fun d hd => ?_, fun d hd => ?_⟩
  · by_cases c : d = j
    · subst c; rw [upd_s]; exact i1
    · rw [upd_n _ _ c]; exact h.1 d hd
  · by_cases c : d = j
    · subst c; rw [upd_s]; exact i2
    · rw [upd_n _ _ c]; exact h.2 d hd
