/-! the state as numbers, and its cells -/
def jmin (x y : Int32) : Int32 := if y < x then y else x
def jmax (x y : Int32) : Int32 := if x < y then y else x
def jabs (x : Int32) : Int32 := if 0 ≤ x then x else 0 - x
abbrev tS : Type := Nat × Nat × (Nat → Nat → Int32) × (Nat → Nat → Int32) × (Nat → Int32) × (Nat → Int32)
/-- houses, pipes, the houses' numbers, the pipes' numbers, who got what from whom, the village's numbers (day, from roofs, lost, drunk, carted) -/
abbrev sN (S : tS) : Nat := S.1
abbrev sP (S : tS) : Nat := S.2.1
abbrev sH (S : tS) : Nat → Nat → Int32 := S.2.2.1
abbrev sQ (S : tS) : Nat → Nat → Int32 := S.2.2.2.1
abbrev sF (S : tS) : Nat → Int32 := S.2.2.2.2.1
abbrev sM (S : tS) : Nat → Int32 := S.2.2.2.2.2
abbrev setH (S : tS) (x : Nat → Nat → Int32) : tS := (sN S, sP S, x, sQ S, sF S, sM S)
abbrev setQ (S : tS) (x : Nat → Nat → Int32) : tS := (sN S, sP S, sH S, x, sF S, sM S)
abbrev setF (S : tS) (x : Nat → Int32) : tS := (sN S, sP S, sH S, sQ S, x, sM S)
abbrev setM (S : tS) (x : Nat → Int32) : tS := (sN S, sP S, sH S, sQ S, sF S, x)
def cH (f : Nat → Int32) : va_E := .inr (0, [.int (f 0), .int (f 1), .int (f 2), .int (f 3), .int (f 4), .int (f 5), .int (f 6), .int (f 7), .int (f 8), .int (f 9)])
def cP (f : Nat → Int32) : va_E := .inr (1, [.int (f 0), .int (f 1), .int (f 2), .int (f 3), .int (f 4), .int (f 5)])
def cV (ad : Nat → Nat) (B : Nat) (S : tS) : va_E := .inr (2, [.ref (ad 1), .ref (ad (B + 1)), .ref (ad (B + 2)), .int (nI (sN S)), .int (nI (sP S)), .int (sM S 0), .int (sM S 1), .int (sM S 2), .int (sM S 3), .int (sM S 4)])
def cHA (cy : Nat → ClassId) (ad : Nat → Nat) (B : Nat) : va_E := .inl (cy 2, 10, .inr (.inr (.inr (.inr (fun i => if i < 10 then some (ad (B + 3 + i)) else none)))))
def cPA (cy : Nat → ClassId) (ad : Nat → Nat) (B : Nat) : va_E := .inl (cy 3, 12, .inr (.inr (.inr (.inr (fun i => if i < 12 then some (ad (B + 13 + i)) else none)))))
/-- a village at the place B over the world g0: the houses and pipes that there are; the rest stays g0's -/
def gV (cy : Nat → ClassId) (ad : Nat → Nat) (B : Nat) (S : tS) (g0 : Nat → va_E) : Nat → va_E := fun k =>
  if k = B then cV ad B S else if k = B + 1 then cHA cy ad B else if k = B + 2 then cPA cy ad B else if B + 3 ≤ k ∧ k < B + 3 + sN S then cH (sH S (k - (B + 3))) else if B + 13 ≤ k ∧ k < B + 13 + sP S then cP (sQ S (k - (B + 13))) else g0 k
section GV
variable {cy : Nat → ClassId} {ad : Nat → Nat} {B n : Nat} {S T : tS} {g0 : Nat → va_E}
theorem gV_v (h : B + 25 ≤ n) : vAt n (gV cy ad B S g0) B (cV ad B S) := ⟨by omega, by unfold gV; rw [if_pos rfl]⟩
theorem gV_ha (h : B + 25 ≤ n) : vAt n (gV cy ad B S g0) (B + 1) (cHA cy ad B) := ⟨by omega, by unfold gV; rw [if_neg (by omega), if_pos rfl]⟩
theorem gV_pa (h : B + 25 ≤ n) : vAt n (gV cy ad B S g0) (B + 2) (cPA cy ad B) := ⟨by omega, by unfold gV; rw [if_neg (by omega), if_neg (by omega), if_pos rfl]⟩
theorem gV_h (h : B + 25 ≤ n) (hN : sN S ≤ 10) {i : Nat} (hi : i < sN S) : vAt n (gV cy ad B S g0) (B + 3 + i) (cH (sH S i)) := by
  refine ⟨by omega, ?_⟩
  unfold gV
  rw [if_neg (by omega), if_neg (by omega), if_neg (by omega), if_pos ⟨by omega, by omega⟩, show B + 3 + i - (B + 3) = i by omega]
theorem gV_p (h : B + 25 ≤ n) (hN : sN S ≤ 10) (hP : sP S ≤ 12) {i : Nat} (hi : i < sP S) : vAt n (gV cy ad B S g0) (B + 13 + i) (cP (sQ S i)) := by
  refine ⟨by omega, ?_⟩
  unfold gV
  rw [if_neg (by omega), if_neg (by omega), if_neg (by omega), if_neg (by omega), if_pos ⟨by omega, by omega⟩, show B + 13 + i - (B + 13) = i by omega]
/-- the cells that are g0's -/
def gOut (B N P k : Nat) : Prop := k ≠ B ∧ k ≠ B + 1 ∧ k ≠ B + 2 ∧ ¬ (B + 3 ≤ k ∧ k < B + 3 + N) ∧ ¬ (B + 13 ≤ k ∧ k < B + 13 + P)
theorem gV_out {k : Nat} (h : gOut B (sN S) (sP S) k) : gV cy ad B S g0 k = g0 k := by
  unfold gV
  rw [if_neg h.1, if_neg h.2.1, if_neg h.2.2.1, if_neg h.2.2.2.1, if_neg h.2.2.2.2]
theorem gV_o {k : Nat} {e : va_E} (h : gOut B (sN S) (sP S) k) (hk : vAt n g0 k e) : vAt n (gV cy ad B S g0) k e := ⟨hk.1, (gV_out h).trans hk.2⟩
theorem gV_upV (hN : sN T = sN S) (hP : sP T = sP S) (hH : sH T = sH S) (hQ : sQ T = sQ S) : va_up (gV cy ad B S g0) B (cV ad B T) = gV cy ad B T g0 := by
  funext k
  by_cases hk : k = B
  · subst hk; rw [va_up_self]; unfold gV; rw [if_pos rfl]
  · rw [va_up_ne _ _ hk]
    unfold gV
    simp only [if_neg hk, hH, hQ, hN, hP]
theorem gV_upH {i : Nat} {f : Nat → Int32} (hN : sN S ≤ 10) (hi : i < sN S) : va_up (gV cy ad B S g0) (B + 3 + i) (cH f) = gV cy ad B (setH S (va_up (sH S) i f)) g0 := by
  funext k
  by_cases hk : k = B + 3 + i
  · subst hk
    rw [va_up_self]
    unfold gV
    rw [if_neg (by omega), if_neg (by omega), if_neg (by omega), if_pos ⟨by omega, show _ < B + 3 + sN S by omega⟩, show B + 3 + i - (B + 3) = i by omega]
    show cH f = cH (va_up (sH S) i f i)
    rw [va_up_self]
  · rw [va_up_ne _ _ hk]
    unfold gV
    by_cases h2 : k = B
    · simp only [if_pos h2]; rfl
    by_cases h3 : k = B + 1
    · simp only [if_neg h2, if_pos h3]
    by_cases h4 : k = B + 2
    · simp only [if_neg h2, if_neg h3, if_pos h4]
    by_cases h5 : B + 3 ≤ k ∧ k < B + 3 + sN S
    · simp only [if_neg h2, if_neg h3, if_neg h4]
      rw [if_pos h5, if_pos (show B + 3 ≤ k ∧ k < B + 3 + sN (setH S (va_up (sH S) i f)) from h5)]
      show _ = cH (va_up (sH S) i f (k - (B + 3)))
      rw [va_up_ne _ _ (by omega)]
    · simp only [if_neg h2, if_neg h3, if_neg h4]
      rw [if_neg h5, if_neg (show ¬ (B + 3 ≤ k ∧ k < B + 3 + sN (setH S (va_up (sH S) i f))) from h5)]
theorem gV_upP {i : Nat} {f : Nat → Int32} (hN : sN S ≤ 10) (hP : sP S ≤ 12) (hi : i < sP S) : va_up (gV cy ad B S g0) (B + 13 + i) (cP f) = gV cy ad B (setQ S (va_up (sQ S) i f)) g0 := by
  funext k
  by_cases hk : k = B + 13 + i
  · subst hk
    rw [va_up_self]
    unfold gV
    rw [if_neg (by omega), if_neg (by omega), if_neg (by omega), if_neg (show ¬ (B + 3 ≤ B + 13 + i ∧ B + 13 + i < B + 3 + sN S) by omega), if_pos ⟨by omega, show _ < B + 13 + sP S by omega⟩, show B + 13 + i - (B + 13) = i by omega]
    show cP f = cP (va_up (sQ S) i f i)
    rw [va_up_self]
  · rw [va_up_ne _ _ hk]
    unfold gV
    by_cases h2 : k = B
    · simp only [if_pos h2]; rfl
    by_cases h3 : k = B + 1
    · simp only [if_neg h2, if_pos h3]
    by_cases h4 : k = B + 2
    · simp only [if_neg h2, if_neg h3, if_pos h4]
    by_cases h5 : B + 3 ≤ k ∧ k < B + 3 + sN S
    · simp only [if_neg h2, if_neg h3, if_neg h4]
      rw [if_pos h5, if_pos (show B + 3 ≤ k ∧ k < B + 3 + sN (setQ S (va_up (sQ S) i f)) from h5)]
    by_cases h6 : B + 13 ≤ k ∧ k < B + 13 + sP S
    · simp only [if_neg h2, if_neg h3, if_neg h4]
      rw [if_neg h5, if_neg (show ¬ (B + 3 ≤ k ∧ k < B + 3 + sN (setQ S (va_up (sQ S) i f))) from h5), if_pos h6, if_pos (show B + 13 ≤ k ∧ k < B + 13 + sP (setQ S (va_up (sQ S) i f)) from h6)]
      show _ = cP (va_up (sQ S) i f (k - (B + 13)))
      rw [va_up_ne _ _ (by omega)]
    · simp only [if_neg h2, if_neg h3, if_neg h4]
      rw [if_neg h5, if_neg (show ¬ (B + 3 ≤ k ∧ k < B + 3 + sN (setQ S (va_up (sQ S) i f))) from h5), if_neg h6, if_neg (show ¬ (B + 13 ≤ k ∧ k < B + 13 + sP (setQ S (va_up (sQ S) i f))) from h6)]
theorem gV_upo {k : Nat} {e : va_E} (h : gOut B (sN S) (sP S) k) : va_up (gV cy ad B S g0) k e = gV cy ad B S (va_up g0 k e) := by
  funext j
  by_cases hj : j = k
  · subst hj; rw [va_up_self, gV_out h, va_up_self]
  · rw [va_up_ne _ _ hj]
    unfold gV
    simp only [va_up_ne _ _ hj]
theorem gV_comm {C : Nat} (h : B + 25 ≤ C) (hN : sN S ≤ 10) (hP : sP S ≤ 12) (hN2 : sN T ≤ 10) (hP2 : sP T ≤ 12) : gV cy ad B S (gV cy ad C T g0) = gV cy ad C T (gV cy ad B S g0) := by
  funext k
  by_cases ho : gOut C (sN T) (sP T) k
  · rw [gV_out ho]
    unfold gV
    rw [if_neg ho.1, if_neg ho.2.1, if_neg ho.2.2.1, if_neg ho.2.2.2.1, if_neg ho.2.2.2.2]
  · have hb : gOut B (sN S) (sP S) k := by
      unfold gOut at ho ⊢
      omega
    rw [gV_out hb]
    unfold gV
    have e : (if k = B then cV ad B S else if k = B + 1 then cHA cy ad B else if k = B + 2 then cPA cy ad B else if B + 3 ≤ k ∧ k < B + 3 + sN S then cH (sH S (k - (B + 3))) else if B + 13 ≤ k ∧ k < B + 13 + sP S then cP (sQ S (k - (B + 13))) else g0 k) = g0 k := by
      rw [if_neg hb.1, if_neg hb.2.1, if_neg hb.2.2.1, if_neg hb.2.2.2.1, if_neg hb.2.2.2.2]
    rw [e]
end GV

section ALD
variable {p : Program} {l : Launch} {e : Env} {R : Room} {s : State} {m : MethodId} {args : Array Value} {below : List Frame} {meth : Method} {c : Code} {cells slots : Nat} {Q : State → Prop}
variable {cc : ByteArray} {own : String} {nL z0 n pc : Nat} {D : va_G} {cy : Nat → ClassId} {ad : Nat → Nat} {g : Nat → va_E} {L : List (Option Value)} {st : List Value}
theorem v_aaldH (X : vCx p s m args c cc own nL z0 D cy) {B j : Nat} {x : Int32} (d : decode cc pc = .ok (.aaload, 1)) (hg : vAt n g (B + 1) (cHA cy ad B)) (hx : x = nI j) (hj : j < 10) (kk : vV p l e R s m args below meth c nL z0 D cells slots Q n ad g (pc + 1) L (.ref (ad (B + 3 + j)) :: st)) : vV p l e R s m args below meth c nL z0 D cells slots Q n ad g pc L (.int x :: .ref (ad (B + 1)) :: st) :=
  v_aald (t0 := 2) X d hg rfl hx hj (by decide) (if_pos hj) kk
theorem v_aaldP (X : vCx p s m args c cc own nL z0 D cy) {B j : Nat} {x : Int32} (d : decode cc pc = .ok (.aaload, 1)) (hg : vAt n g (B + 2) (cPA cy ad B)) (hx : x = nI j) (hj : j < 12) (kk : vV p l e R s m args below meth c nL z0 D cells slots Q n ad g (pc + 1) L (.ref (ad (B + 13 + j)) :: st)) : vV p l e R s m args below meth c nL z0 D cells slots Q n ad g pc L (.int x :: .ref (ad (B + 2)) :: st) :=
  v_aald (t0 := 3) X d hg rfl hx hj (by decide) (if_pos hj) kk
end ALD
