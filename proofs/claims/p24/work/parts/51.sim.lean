/-! the law's own village: its cells behind the class's -/
def cS (ad : Nat → Nat) (S : tS) : va_E := .inr (6, [.ref (ad 55), .ref (ad 95), .ref (ad 96), .ref (ad 84), .int (sM S 0), .int (sM S 1), .int (sM S 2), .int (sM S 3), .int (sM S 4)])
def cL (f : Nat → Int32) : va_E := .inr (5, [.int (f 0), .int (f 1), .int (f 2), .int (f 3), .int (f 4), .int (f 5), .int (f 6), .int (f 7), .int (f 8), .int (f 9)])
def c5 (f : Nat → Int32) : Nat → Int32 := fun j => if j < 5 then f j else 0
def wr (ra le : Nat → Int32) (k : Nat) : Nat → Int32 := fun j => if j = 0 then ra k else if j = 1 then le k else 0
def fr (F : Nat → Int32) (a : Nat) : Nat → Int32 := fun j => if j < 10 then F (10 * a + j) else 0
theorem c5_up {f : Nat → Int32} {j : Nat} {x : Int32} (h : j < 5) : upd (c5 f) j x = c5 (upd f j x) := by
  funext i
  unfold c5 upd
  by_cases e : i = j
  · subst e; simp [h]
  · simp [e]
theorem c5_5 {f : Nat → Int32} {x : Int32} : c5 (upd f 5 x) = c5 f := by
  funext i
  unfold c5 upd
  by_cases e : i < 5
  · rw [if_pos e, if_pos e, if_neg (by omega)]
  · rw [if_neg e, if_neg e]
theorem c5_at {f : Nat → Int32} {j : Nat} (h : j < 5) : c5 f j = f j := if_pos h
theorem fr_at {F : Nat → Int32} {a j : Nat} (h : j < 10) : fr F a j = F (10 * a + j) := if_pos h
theorem fr_up {F : Nat → Int32} {a j : Nat} {x : Int32} (h : j < 10) : upd (fr F a) j x = fr (upd F (10 * a + j) x) a := by
  funext i
  show (if i = j then x else if i < 10 then F (10 * a + i) else 0) = if i < 10 then (if 10 * a + i = 10 * a + j then x else F (10 * a + i)) else 0
  by_cases e : i = j
  · subst e; simp [h]
  · by_cases e2 : i < 10
    · rw [if_neg e, if_pos e2, if_pos e2, if_neg (by omega)]
    · rw [if_neg e, if_neg e2, if_neg e2]
theorem fr_ne {F : Nat → Int32} {a b j : Nat} {x : Int32} (hj : j < 10) (hb : b ≠ a) : fr (upd F (10 * a + j) x) b = fr F b := by
  funext i
  unfold fr upd
  by_cases e2 : i < 10
  · rw [if_pos e2, if_pos e2, if_neg (by omega)]
  · rw [if_neg e2, if_neg e2]
theorem wr_ne {ra le : Nat → Int32} {k j : Nat} {x y : Int32} (h : j ≠ k) : wr (upd ra k x) (upd le k y) j = wr ra le j := by
  funext i
  unfold wr upd
  rw [if_neg h, if_neg h]
theorem wr_s {ra le : Nat → Int32} {k : Nat} {x y : Int32} : wr (upd ra k x) (upd le k y) k = upd (upd (fun _ => 0) 0 x) 1 y := by
  funext i
  unfold wr upd
  simp only [if_pos rfl]
  by_cases e : i = 0
  · subst e; simp
  · by_cases e1 : i = 1
    · subst e1; simp
    · simp [e, e1]
def gS (cy : Nat → ClassId) (ad : Nat → Nat) (S : tS) (ra le : Nat → Int32) (g0 : Nat → va_E) : Nat → va_E := fun k =>
  if k < 54 then g0 k else if k = 54 then cS ad S else if k = 55 then aA cy 28 (rf ad 56 28) else if k < 84 then iA cy 2 (wr ra le (k - 56)) else if k = 84 then aA cy 10 (rf ad 85 10) else if k < 95 then iA cy 10 (fr (sF S) (k - 85)) else if k = 95 then hA cy (sN S) (rf ad 97 (sN S)) else if k = 96 then aA cy (sP S) (rf ad (97 + sN S) (sP S)) else if k < 97 + sN S then cL (sH S (k - 97)) else if k < 97 + sN S + sP S then iA cy 5 (c5 (sQ S (k - (97 + sN S)))) else g0 k
section GS
variable {cy : Nat → ClassId} {ad : Nat → Nat} {n : Nat} {S T : tS} {ra le : Nat → Int32} {g0 : Nat → va_E}
theorem gS_s (h : 97 + sN S + sP S ≤ n) : vAt n (gS cy ad S ra le g0) 54 (cS ad S) := ⟨by omega, rfl⟩
theorem gS_w (h : 97 + sN S + sP S ≤ n) : vAt n (gS cy ad S ra le g0) 55 (aA cy 28 (rf ad 56 28)) := ⟨by omega, rfl⟩
theorem gS_wr (h : 97 + sN S + sP S ≤ n) {i : Nat} (hi : i < 28) : vAt n (gS cy ad S ra le g0) (56 + i) (iA cy 2 (wr ra le i)) := ⟨by omega, by
  unfold gS
  rw [if_neg (by omega), if_neg (by omega), if_neg (by omega), if_pos (by omega), show 56 + i - 56 = i by omega]⟩
theorem gS_f (h : 97 + sN S + sP S ≤ n) : vAt n (gS cy ad S ra le g0) 84 (aA cy 10 (rf ad 85 10)) := ⟨by omega, rfl⟩
theorem gS_fr (h : 97 + sN S + sP S ≤ n) {i : Nat} (hi : i < 10) : vAt n (gS cy ad S ra le g0) (85 + i) (iA cy 10 (fr (sF S) i)) := ⟨by omega, by
  unfold gS
  rw [if_neg (by omega), if_neg (by omega), if_neg (by omega), if_neg (by omega), if_neg (by omega), if_pos (by omega), show 85 + i - 85 = i by omega]⟩
theorem gS_h (h : 97 + sN S + sP S ≤ n) : vAt n (gS cy ad S ra le g0) 95 (hA cy (sN S) (rf ad 97 (sN S))) := ⟨by omega, rfl⟩
theorem gS_p (h : 97 + sN S + sP S ≤ n) : vAt n (gS cy ad S ra le g0) 96 (aA cy (sP S) (rf ad (97 + sN S) (sP S))) := ⟨by omega, rfl⟩
theorem gS_hh (h : 97 + sN S + sP S ≤ n) {i : Nat} (hi : i < sN S) : vAt n (gS cy ad S ra le g0) (97 + i) (cL (sH S i)) := ⟨by omega, by
  unfold gS
  rw [if_neg (by omega), if_neg (by omega), if_neg (by omega), if_neg (by omega), if_neg (by omega), if_neg (by omega), if_neg (by omega), if_neg (by omega), if_pos (by omega), show 97 + i - 97 = i by omega]⟩
theorem gS_pp (h : 97 + sN S + sP S ≤ n) {i : Nat} (hi : i < sP S) : vAt n (gS cy ad S ra le g0) (97 + sN S + i) (iA cy 5 (c5 (sQ S i))) := ⟨by omega, by
  unfold gS
  rw [if_neg (by omega), if_neg (by omega), if_neg (by omega), if_neg (by omega), if_neg (by omega), if_neg (by omega), if_neg (by omega), if_neg (by omega), if_neg (by omega), if_pos (by omega), show 97 + sN S + i - (97 + sN S) = i by omega]⟩
theorem gS_out {k : Nat} (h : k < 54 ∨ 97 + sN S + sP S ≤ k) : gS cy ad S ra le g0 k = g0 k := by
  unfold gS
  rcases h with h | h
  · rw [if_pos h]
  · rw [if_neg (by omega), if_neg (by omega), if_neg (by omega), if_neg (by omega), if_neg (by omega), if_neg (by omega), if_neg (by omega), if_neg (by omega), if_neg (by omega), if_neg (by omega)]
theorem gS_o {k : Nat} {e : va_E} (h : k < 54 ∨ 97 + sN S + sP S ≤ k) (hk : vAt n g0 k e) : vAt n (gS cy ad S ra le g0) k e := ⟨hk.1, (gS_out h).trans hk.2⟩
/-- the same at k, if what lies there is the same -/
theorem gS_ext {ad' : Nat → Nat} {ra' le' : Nat → Int32} {g1 : Nat → va_E} {k : Nat} (hN : sN T = sN S) (hP : sP T = sP S) (h0 : k < 54 ∨ 97 + sN S + sP S ≤ k → g1 k = g0 k) (hS : k = 54 → cS ad' T = cS ad S) (h1 : k = 55 → rf ad' 56 28 = rf ad 56 28) (hw : 56 ≤ k → k < 84 → wr ra' le' (k - 56) = wr ra le (k - 56)) (h2 : k = 84 → rf ad' 85 10 = rf ad 85 10) (hF : 85 ≤ k → k < 95 → fr (sF T) (k - 85) = fr (sF S) (k - 85)) (h3 : k = 95 → rf ad' 97 (sN S) = rf ad 97 (sN S)) (h4 : k = 96 → rf ad' (97 + sN S) (sP S) = rf ad (97 + sN S) (sP S)) (hH : 97 ≤ k → k < 97 + sN S → sH T (k - 97) = sH S (k - 97)) (hQ : 97 + sN S ≤ k → k < 97 + sN S + sP S → c5 (sQ T (k - (97 + sN S))) = c5 (sQ S (k - (97 + sN S)))) : gS cy ad' T ra' le' g1 k = gS cy ad S ra le g0 k := by
  unfold gS
  rw [hN, hP]
  by_cases a1 : k < 54
  · rw [if_pos a1, if_pos a1, h0 (Or.inl a1)]
  rw [if_neg a1, if_neg a1]
  by_cases a2 : k = 54
  · rw [if_pos a2, if_pos a2, hS a2]
  rw [if_neg a2, if_neg a2]
  by_cases a3 : k = 55
  · rw [if_pos a3, if_pos a3, h1 a3]
  rw [if_neg a3, if_neg a3]
  by_cases a4 : k < 84
  · rw [if_pos a4, if_pos a4, hw (by omega) a4]
  rw [if_neg a4, if_neg a4]
  by_cases a5 : k = 84
  · rw [if_pos a5, if_pos a5, h2 a5]
  rw [if_neg a5, if_neg a5]
  by_cases a6 : k < 95
  · rw [if_pos a6, if_pos a6, hF (by omega) a6]
  rw [if_neg a6, if_neg a6]
  by_cases a7 : k = 95
  · rw [if_pos a7, if_pos a7, h3 a7]
  rw [if_neg a7, if_neg a7]
  by_cases a8 : k = 96
  · rw [if_pos a8, if_pos a8, h4 a8]
  rw [if_neg a8, if_neg a8]
  by_cases a9 : k < 97 + sN S
  · rw [if_pos a9, if_pos a9, hH (by omega) a9]
  rw [if_neg a9, if_neg a9]
  by_cases a10 : k < 97 + sN S + sP S
  · rw [if_pos a10, if_pos a10, hQ (by omega) a10]
  rw [if_neg a10, if_neg a10, h0 (Or.inr (by omega))]
theorem gS_upS (hN : sN T = sN S) (hP : sP T = sP S) (hH : sH T = sH S) (hQ : sQ T = sQ S) (hF : sF T = sF S) : va_up (gS cy ad S ra le g0) 54 (cS ad T) = gS cy ad T ra le g0 := by
  funext k
  by_cases e : k = 54
  · subst e; rw [va_up_self]; rfl
  · rw [va_up_ne _ _ e]
    exact (gS_ext hN hP (fun _ => rfl) (fun q => absurd q e) (fun _ => rfl) (fun _ _ => rfl) (fun _ => rfl) (fun _ _ => by rw [hF]) (fun _ => rfl) (fun _ => rfl) (fun _ _ => by rw [hH]) (fun _ _ => by rw [hQ])).symm
theorem gS_upH {i : Nat} {f : Nat → Int32} (hi : i < sN S) : va_up (gS cy ad S ra le g0) (97 + i) (cL f) = gS cy ad (setH S (va_up (sH S) i f)) ra le g0 := by
  funext k
  by_cases e : k = 97 + i
  · subst e
    rw [va_up_self, (gS_hh (S := setH S (va_up (sH S) i f)) (n := 97 + sN S + sP S) (Nat.le_refl _) hi).2]
    show cL f = cL (va_up (sH S) i f i)
    rw [va_up_self]
  · rw [va_up_ne _ _ e]
    exact (gS_ext (S := S) (T := setH S (va_up (sH S) i f)) rfl rfl (fun _ => rfl) (fun _ => rfl) (fun _ => rfl) (fun _ _ => rfl) (fun _ => rfl) (fun _ _ => rfl) (fun _ => rfl) (fun _ => rfl) (fun _ _ => by show va_up (sH S) i f (k - 97) = _; rw [va_up_ne _ _ (by omega)]) (fun _ _ => rfl)).symm
theorem gS_upQ {i : Nat} {f : Nat → Int32} (hi : i < sP S) : va_up (gS cy ad S ra le g0) (97 + sN S + i) (iA cy 5 (c5 f)) = gS cy ad (setQ S (va_up (sQ S) i f)) ra le g0 := by
  funext k
  by_cases e : k = 97 + sN S + i
  · subst e
    rw [va_up_self]
    have := (gS_pp (cy := cy) (ad := ad) (ra := ra) (le := le) (g0 := g0) (S := setQ S (va_up (sQ S) i f)) (n := 97 + sN S + sP S) (Nat.le_refl _) hi).2
    refine Eq.trans ?_ this.symm
    show _ = iA cy 5 (c5 (va_up (sQ S) i f i))
    rw [va_up_self]
  · rw [va_up_ne _ _ e]
    exact (gS_ext (S := S) (T := setQ S (va_up (sQ S) i f)) rfl rfl (fun _ => rfl) (fun _ => rfl) (fun _ => rfl) (fun _ _ => rfl) (fun _ => rfl) (fun _ _ => rfl) (fun _ => rfl) (fun _ => rfl) (fun _ _ => rfl) (fun _ _ => by show c5 (va_up (sQ S) i f (k - (97 + sN S))) = _; rw [va_up_ne _ _ (by omega)])).symm
theorem gS_upF {a b : Nat} {x : Int32} (ha : a < 10) (hb : b < 10) : va_up (gS cy ad S ra le g0) (85 + a) (iA cy 10 (upd (fr (sF S) a) b x)) = gS cy ad (setF S (upd (sF S) (10 * a + b) x)) ra le g0 := by
  funext k
  by_cases e : k = 85 + a
  · subst e
    rw [va_up_self, (gS_fr (S := setF S (upd (sF S) (10 * a + b) x)) (n := 97 + sN S + sP S) (Nat.le_refl _) ha).2, fr_up hb]
  · rw [va_up_ne _ _ e]
    exact (gS_ext (S := S) (T := setF S (upd (sF S) (10 * a + b) x)) rfl rfl (fun _ => rfl) (fun _ => rfl) (fun _ => rfl) (fun _ _ => rfl) (fun _ => rfl) (fun _ _ => by show fr (upd (sF S) (10 * a + b) x) (k - 85) = _; rw [fr_ne hb (by omega)]) (fun _ => rfl) (fun _ => rfl) (fun _ _ => rfl) (fun _ _ => rfl)).symm
theorem gS_upW {i : Nat} {x y : Int32} (hi : i < 28) : va_up (gS cy ad S ra le g0) (56 + i) (iA cy 2 (upd (upd (fun _ => 0) 0 x) 1 y)) = gS cy ad S (upd ra i x) (upd le i y) g0 := by
  funext k
  by_cases e : k = 56 + i
  · subst e
    rw [va_up_self, (gS_wr (n := 97 + sN S + sP S) (Nat.le_refl _) hi).2, wr_s]
  · rw [va_up_ne _ _ e]
    exact (gS_ext rfl rfl (fun _ => rfl) (fun _ => rfl) (fun _ => rfl) (fun _ _ => wr_ne (by omega)) (fun _ => rfl) (fun _ _ => rfl) (fun _ => rfl) (fun _ => rfl) (fun _ _ => rfl) (fun _ _ => rfl)).symm
theorem gS_upo {k : Nat} {e : va_E} (h : k < 54 ∨ 97 + sN S + sP S ≤ k) : va_up (gS cy ad S ra le g0) k e = gS cy ad S ra le (va_up g0 k e) := by
  funext j
  by_cases hj : j = k
  · subst hj; rw [va_up_self, gS_out h, va_up_self]
  · rw [va_up_ne _ _ hj]
    exact gS_ext rfl rfl (fun _ => (va_up_ne _ _ hj).symm) (fun _ => rfl) (fun _ => rfl) (fun _ _ => rfl) (fun _ => rfl) (fun _ _ => rfl) (fun _ => rfl) (fun _ => rfl) (fun _ _ => rfl) (fun _ _ => rfl)
/-- the class's village and the law's lie apart -/
theorem gS_gV {B : Nat} (hB : B + 25 ≤ 54) (hN : sN S ≤ 10) (hP : sP S ≤ 12) : gV cy ad B S (gS cy ad T ra le g0) = gS cy ad T ra le (gV cy ad B S g0) := by
  funext k
  by_cases h : k < 54
  · rw [gS_out (Or.inl h)]
    unfold gV
    rw [gS_out (Or.inl h)]
  · rw [gV_out (by unfold gOut; omega)]
    exact gS_ext rfl rfl (fun _ => (gV_out (by unfold gOut; omega)).symm) (fun _ => rfl) (fun _ => rfl) (fun _ _ => rfl) (fun _ => rfl) (fun _ _ => rfl) (fun _ => rfl) (fun _ => rfl) (fun _ _ => rfl) (fun _ _ => rfl)
theorem gS_gS {g1 : Nat → va_E} (h : ∀ k, k < 54 ∨ 97 + sN S + sP S ≤ k → g1 k = g0 k) : gS cy ad S ra le g1 = gS cy ad S ra le g0 := by
  funext k
  exact gS_ext rfl rfl (fun q => h k q) (fun _ => rfl) (fun _ => rfl) (fun _ _ => rfl) (fun _ => rfl) (fun _ _ => rfl) (fun _ => rfl) (fun _ => rfl) (fun _ _ => rfl) (fun _ _ => rfl)
/-- a world that has the law's village -/
theorem gS_eta (h : ∀ k, 54 ≤ k → k < 97 + sN S + sP S → g0 k = gS cy ad S ra le g0 k) : gS cy ad S ra le g0 = g0 := by
  funext k
  by_cases q : k < 54 ∨ 97 + sN S + sP S ≤ k
  · exact gS_out q
  · exact (h k (by omega) (by omega)).symm
/-- the cells' addresses told anew -/
theorem gS_ad {ad' : Nat → Nat} (h : ∀ k, 54 ≤ k → k < 97 + sN S + sP S → ad' k = ad k) : gS cy ad' S ra le g0 = gS cy ad S ra le g0 := by
  funext k
  have hs : cS ad' S = cS ad S := by unfold cS; rw [h 55 (by omega) (by omega), h 95 (by omega) (by omega), h 96 (by omega) (by omega), h 84 (by omega) (by omega)]
  exact gS_ext rfl rfl (fun _ => rfl) (fun _ => hs) (fun _ => rf_ad (fun i hi => h _ (by omega) (by omega))) (fun _ _ => rfl) (fun _ => rf_ad (fun i hi => h _ (by omega) (by omega))) (fun _ _ => rfl) (fun _ => rf_ad (fun i hi => h _ (by omega) (by omega))) (fun _ => rf_ad (fun i hi => h _ (by omega) (by omega))) (fun _ _ => rfl) (fun _ _ => rfl)
theorem gV_ad {B : Nat} {ad' : Nat → Nat} (h1 : ad' 1 = ad 1) (h : ∀ k, B ≤ k → k < B + 25 → ad' k = ad k) : gV cy ad' B S g0 = gV cy ad B S g0 := by
  have e1 : cV ad' B S = cV ad B S := by unfold cV; rw [h1, h (B + 1) (by omega) (by omega), h (B + 2) (by omega) (by omega)]
  have e2 : cHA cy ad' B = cHA cy ad B := by
    refine congrArg (fun f => (.inl (cy 2, 10, .inr (.inr (.inr (.inr f)))) : va_E)) ?_
    funext i
    split
    · rw [h _ (by omega) (by omega)]
    · rfl
  have e3 : cPA cy ad' B = cPA cy ad B := by
    refine congrArg (fun f => (.inl (cy 3, 12, .inr (.inr (.inr (.inr f)))) : va_E)) ?_
    funext i
    split
    · rw [h _ (by omega) (by omega)]
    · rfl
  funext k
  unfold gV
  rw [e1, e2, e3]
end GS
