/-! the class and the law's village side by side -/
/-- what lies below both villages: the class's object, its weather, the second village, houses and pipes that aren't there yet -/
def BJ (cy : Nat → ClassId) (ad : Nat → Nat) (S : tS) (ra le : Nat → Int32) (g0 : Nat → va_E) : Prop :=
  RO ad 54 g0 ∧ WX cy ad 54 g0 ra le ∧ VB cy ad 54 g0 29 ∧ (∀ i, sN S ≤ i → i < 10 → g0 (4 + 3 + i) = cH dfH) ∧ ∀ i, sP S ≤ i → i < 12 → g0 (4 + 13 + i) = cP dfQ
def jW (cy : Nat → ClassId) (ad : Nat → Nat) (S T : tS) (ra le : Nat → Int32) (g0 : Nat → va_E) : Nat → va_E := gV cy ad 4 S (gS cy ad T ra le g0)
section JW
variable {cy : Nat → ClassId} {ad : Nat → Nat} {n : Nat} {S T : tS} {ra le ra' le' : Nat → Int32} {g0 : Nat → va_E}
theorem vAt.mono {m k : Nat} {g : Nat → va_E} {e : va_E} (h : vAt m g k e) (hm : m ≤ n) : vAt n g k e := ⟨Nat.lt_of_lt_of_le h.1 hm, h.2⟩
theorem BJ.R (h : BJ cy ad S ra le g0) (hn : 54 ≤ n) : RO ad n (gS cy ad T ra' le' g0) := ⟨by omega, gS_o (Or.inl (by omega)) (h.1.2.mono hn)⟩
theorem BJ.W (h : BJ cy ad S ra le g0) (hn : 54 ≤ n) : WX cy ad n (gS cy ad T ra' le' g0) ra le := ⟨gS_o (Or.inl (by omega)) (h.2.1.1.mono hn), gS_o (Or.inl (by omega)) (h.2.1.2.1.mono hn), gS_o (Or.inl (by omega)) (h.2.1.2.2.mono hn)⟩
theorem BJ.V (h : BJ cy ad S ra le g0) (hn : 54 ≤ n) : VB cy ad n (gS cy ad T ra' le' g0) 29 := by
  obtain ⟨-, ⟨S1, h2⟩, h3, h4, h5, h6⟩ := h.2.2.1
  refine ⟨by omega, ⟨S1, (gS_out (Or.inl (by omega))).trans h2⟩, (gS_out (Or.inl (by omega))).trans h3, (gS_out (Or.inl (by omega))).trans h4, fun i hi => ?_, fun i hi => ?_⟩
  · obtain ⟨f, hf⟩ := h5 i hi
    exact ⟨f, (gS_out (Or.inl (by omega))).trans hf⟩
  · obtain ⟨f, hf⟩ := h6 i hi
    exact ⟨f, (gS_out (Or.inl (by omega))).trans hf⟩
theorem BJ.h (h : BJ cy ad S ra le g0) (hn : 54 ≤ n) (hN : sN S < 10) : vAt n (gS cy ad T ra' le' g0) (4 + 3 + sN S) (cH dfH) := ⟨by omega, (gS_out (Or.inl (by omega))).trans (h.2.2.2.1 _ (Nat.le_refl _) hN)⟩
theorem BJ.p (h : BJ cy ad S ra le g0) (hn : 54 ≤ n) (hP : sP S < 12) : vAt n (gS cy ad T ra' le' g0) (4 + 13 + sP S) (cP dfQ) := ⟨by omega, (gS_out (Or.inl (by omega))).trans (h.2.2.2.2 _ (Nat.le_refl _) hP)⟩
theorem BJ.to (h : BJ cy ad S ra le g0) (hN : sN S ≤ sN T) (hP : sP S ≤ sP T) : BJ cy ad T ra le g0 := ⟨h.1, h.2.1, h.2.2.1, fun i h1 h2 => h.2.2.2.1 i (by omega) h2, fun i h1 h2 => h.2.2.2.2 i (by omega) h2⟩
/-- other addresses from 54 on -/
theorem BJ.adr {ad' : Nat → Nat} (h : BJ cy ad S ra le g0) (ha : ∀ k, k < 54 → ad' k = ad k) : BJ cy ad' S ra le g0 := by
  obtain ⟨h1, h2, ⟨v0, ⟨S1, v1⟩, v2, v3, v4, v5⟩, h4, h5⟩ := h
  have e1 : cV ad' 29 S1 = cV ad 29 S1 := by unfold cV; rw [ha 1 (by omega), ha 30 (by omega), ha 31 (by omega)]
  have e2 : cHA cy ad' 29 = cHA cy ad 29 := by
    refine congrArg (fun f => (.inl (cy 2, 10, .inr (.inr (.inr (.inr f)))) : va_E)) ?_
    funext i
    split
    · rw [ha _ (by omega)]
    · rfl
  have e3 : cPA cy ad' 29 = cPA cy ad 29 := by
    refine congrArg (fun f => (.inl (cy 3, 12, .inr (.inr (.inr (.inr f)))) : va_E)) ?_
    funext i
    split
    · rw [ha _ (by omega)]
    · rfl
  refine ⟨⟨h1.1, by rw [ha 1 (by omega), ha 4 (by omega), ha 29 (by omega)]; exact h1.2⟩, ⟨by rw [ha 2 (by omega), ha 3 (by omega)]; exact h2.1, h2.2.1, h2.2.2⟩, ⟨v0, ⟨S1, by rw [e1]; exact v1⟩, by rw [e2]; exact v2, by rw [e3]; exact v3, v4, v5⟩, h4, h5⟩
theorem jW_c (hN : sN S ≤ 10) (hP : sP S ≤ 12) : jW cy ad S T ra le g0 = gS cy ad T ra le (gV cy ad 4 S g0) := gS_gV (by omega) hN hP
theorem jW_ad {ad' : Nat → Nat} (h : ∀ k, k < 97 + sN T + sP T → ad' k = ad k) : jW cy ad' S T ra le g0 = jW cy ad S T ra le g0 := by
  unfold jW
  rw [gS_ad (fun k _ hk => h k hk), gV_ad (h 1 (by omega)) (fun k h1 h2 => h k (by omega))]
theorem jW_gV {ad' : Nat → Nat} (h : ∀ k, k < 54 → ad' k = ad k) : gV cy ad' 4 S g0 = gV cy ad 4 S g0 := gV_ad (h 1 (by omega)) (fun k h1 h2 => h k (by omega))
/-- the weather told to the class -/
theorem jW_w {i : Nat} {x y : Int32} : gV cy ad 4 S (va_up (va_up (gS cy ad T ra' le' g0) 2 (.inl (cy 0, 28, .inl (upd ra i x)))) 3 (.inl (cy 0, 28, .inl (upd le i y)))) = jW cy ad S T ra' le' (va_up (va_up g0 2 (.inl (cy 0, 28, .inl (upd ra i x)))) 3 (.inl (cy 0, 28, .inl (upd le i y)))) := by
  unfold jW
  rw [gS_upo (Or.inl (by omega)), gS_upo (Or.inl (by omega))]
theorem BJ.w {i : Nat} {x y : Int32} (h : BJ cy ad S ra le g0) : BJ cy ad S (upd ra i x) (upd le i y) (va_up (va_up g0 2 (.inl (cy 0, 28, .inl (upd ra i x)))) 3 (.inl (cy 0, 28, .inl (upd le i y)))) := by
  obtain ⟨h1, h2, ⟨v0, ⟨S1, v1⟩, v2, v3, v4, v5⟩, h4, h5⟩ := h
  have e : ∀ k, k ≠ 2 → k ≠ 3 → va_up (va_up g0 2 (.inl (cy 0, 28, .inl (upd ra i x)))) 3 (.inl (cy 0, 28, .inl (upd le i y))) k = g0 k := fun k a b => by rw [va_up_ne _ _ b, va_up_ne _ _ a]
  refine ⟨⟨h1.1, h1.2.1, (e 0 (by omega) (by omega)).trans h1.2.2⟩, ⟨⟨by omega, (e 1 (by omega) (by omega)).trans h2.1.2⟩, ⟨by omega, by rw [va_up_ne _ _ (by omega), va_up_self]⟩, ⟨by omega, va_up_self _ _ _⟩⟩, ⟨v0, ⟨S1, (e _ (by omega) (by omega)).trans v1⟩, (e _ (by omega) (by omega)).trans v2, (e _ (by omega) (by omega)).trans v3, fun j hj => ?_, fun j hj => ?_⟩, fun j a b => (e _ (by omega) (by omega)).trans (h4 j a b), fun j a b => (e _ (by omega) (by omega)).trans (h5 j a b)⟩
  · obtain ⟨f, hf⟩ := v4 j hj
    exact ⟨f, (e _ (by omega) (by omega)).trans hf⟩
  · obtain ⟨f, hf⟩ := v5 j hj
    exact ⟨f, (e _ (by omega) (by omega)).trans hf⟩
/-- behind a look ahead: the second village is another, all else is as it was -/
theorem jW_t {g1 : Nat → va_E} (hB : BJ cy ad S ra le g0) (hn : 54 ≤ n) (h : TR cy ad n (gS cy ad S ra le g0) g1) : gV cy ad 4 S g1 = jW cy ad S S ra le g1 ∧ BJ cy ad S ra le g1 := by
  have e : ∀ k, k < 29 ∨ 54 ≤ k → g1 k = gS cy ad S ra le g0 k := h.2
  have e0 : ∀ k, k < 29 → g1 k = g0 k := fun k hk => (e k (Or.inl hk)).trans (gS_out (Or.inl (by omega)))
  constructor
  · unfold jW
    rw [gS_eta (fun k h1 h2 => by
      rw [e k (Or.inr h1)]
      exact gS_ext rfl rfl (fun q => by rw [e k (Or.inr h1)]; rcases q with q | q <;> omega) (fun _ => rfl) (fun _ => rfl) (fun _ _ => rfl) (fun _ => rfl) (fun _ _ => rfl) (fun _ => rfl) (fun _ => rfl) (fun _ _ => rfl) (fun _ _ => rfl))]
  · obtain ⟨h1, h2, -, h4, h5⟩ := hB
    obtain ⟨-, v1, v2, v3, v4, v5⟩ := h.1
    exact ⟨⟨h1.1, h1.2.1, (e0 0 (by omega)).trans h1.2.2⟩, ⟨⟨by omega, (e0 1 (by omega)).trans h2.1.2⟩, ⟨by omega, (e0 2 (by omega)).trans h2.2.1.2⟩, ⟨by omega, (e0 3 (by omega)).trans h2.2.2.2⟩⟩, ⟨by omega, v1, v2, v3, v4, v5⟩, fun j a b => (e0 _ (by omega)).trans (h4 j a b), fun j a b => (e0 _ (by omega)).trans (h5 j a b)⟩
end JW
/-! rows: a cell of the script, a number below another -/
section RCB
variable {p : Program} {l : Launch} {e : Env} {R : Room} {s : State} {m : MethodId} {args : Array Value} {below : List Frame} {meth : Method} {c : Code} {cells slots : Nat} {Q : State → Prop}
variable {cc : ByteArray} {nL z0 n pc : Nat} {D : va_G} {cy : Nat → ClassId} {ad : Nat → Nat} {g : Nat → va_E} {L : List (Option Value)} {st : List Value}
theorem v_cell (X : vCx p s m args c cc RL nL z0 D cy) (d : decode cc pc = .ok (.invokestatic 12, 3)) {x : Int32} {j : Nat} (hx : x = nI j) (hj : j < 1000) (hst : (st.map fun v => v.category).sum ≤ 8) (hR : 1 ≤ R.frames ∧ 40 ≤ R.locals ∧ cells ≤ R.cells ∧ slots ≤ R.slots) (kk : ∀ y : Int32, vV p l e R s m args below meth c nL z0 D cells slots Q n ad g (pc + 3) L (.int y :: st)) : vV p l e R s m args below meth c nL z0 D cells slots Q n ad g pc L (.int x :: .ref (cy 9) :: st) := by
  subst hx
  refine cl_L_12 X d (c_cell l hj) hst ⟨rfl, rfl, by show 0 + 1 ≤ R.frames; omega, by show 8 + (2 + 11) + 0 ≤ R.locals; omega, by omega, by omega⟩ ?_
  rintro _ _ _ _ ⟨⟨y, rfl⟩, rfl, rfl, rfl⟩
  exact kk y
theorem v_below (X : vCx p s m args c cc RL nL z0 D cy) (d : decode cc pc = .ok (.invokestatic 18, 3)) {x v : Int32} {N : Nat} (hx : x = nI N) (h0 : 0 < N) (hN : N < 2 ^ 31) (hst : (st.map fun v => v.category).sum ≤ 8) (hR : 1 ≤ R.frames ∧ 40 ≤ R.locals ∧ cells ≤ R.cells ∧ slots ≤ R.slots) (kk : vV p l e R s m args below meth c nL z0 D cells slots Q n ad g (pc + 3) L (.int (nI (bel v N)) :: st)) : vV p l e R s m args below meth c nL z0 D cells slots Q n ad g pc L (.int x :: .int v :: st) := by
  subst hx
  exact cd_L_18 X d (c_below l h0 hN) hst ⟨by omega, by omega, hR.2.2.1, hR.2.2.2⟩ kk
end RCB
