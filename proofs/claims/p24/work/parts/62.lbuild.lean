/-! the law's village and the class's built alike -/
def IJ (cy : Nat → ClassId) (ad : Nat → Nat) (S : tS) (ra le : Nat → Int32) (g0 : Nat → va_E) (d : Nat) : Prop := ok S ∧ (dbJ S ∧ cons S) ∧ wok ra le ∧ sM S 0 = nI d ∧ BJ cy ad S ra le g0
section JS
variable {cy : Nat → ClassId} {ad : Nat → Nat} {n : Nat} {S T : tS} {ra le : Nat → Int32} {g0 : Nat → va_E}
theorem jS_s (ho : ok S) (h : 97 + sN T + sP T ≤ n) : vAt n (jW cy ad S T ra le g0) 54 (cS ad T) := gV_o (by have := ho.1; have := ho.2.1; unfold gOut; omega) (gS_s h)
theorem jS_w (ho : ok S) (h : 97 + sN T + sP T ≤ n) : vAt n (jW cy ad S T ra le g0) 55 (aA cy 28 (rf ad 56 28)) := gV_o (by have := ho.1; have := ho.2.1; unfold gOut; omega) (gS_w h)
theorem jS_wr (ho : ok S) (h : 97 + sN T + sP T ≤ n) {i : Nat} (hi : i < 28) : vAt n (jW cy ad S T ra le g0) (56 + i) (iA cy 2 (wr ra le i)) := gV_o (by have := ho.1; have := ho.2.1; unfold gOut; omega) (gS_wr h hi)
theorem jS_f (ho : ok S) (h : 97 + sN T + sP T ≤ n) : vAt n (jW cy ad S T ra le g0) 84 (aA cy 10 (rf ad 85 10)) := gV_o (by have := ho.1; have := ho.2.1; unfold gOut; omega) (gS_f h)
theorem jS_fr (ho : ok S) (h : 97 + sN T + sP T ≤ n) {i : Nat} (hi : i < 10) : vAt n (jW cy ad S T ra le g0) (85 + i) (iA cy 10 (fr (sF T) i)) := gV_o (by have := ho.1; have := ho.2.1; unfold gOut; omega) (gS_fr h hi)
theorem jS_h (ho : ok S) (h : 97 + sN T + sP T ≤ n) : vAt n (jW cy ad S T ra le g0) 95 (hA cy (sN T) (rf ad 97 (sN T))) := gV_o (by have := ho.1; have := ho.2.1; unfold gOut; omega) (gS_h h)
theorem jS_p (ho : ok S) (h : 97 + sN T + sP T ≤ n) : vAt n (jW cy ad S T ra le g0) 96 (aA cy (sP T) (rf ad (97 + sN T) (sP T))) := gV_o (by have := ho.1; have := ho.2.1; unfold gOut; omega) (gS_p h)
theorem jS_hh (ho : ok S) (h : 97 + sN T + sP T ≤ n) {i : Nat} (hi : i < sN T) : vAt n (jW cy ad S T ra le g0) (97 + i) (cL (sH T i)) := gV_o (by have := ho.1; have := ho.2.1; unfold gOut; omega) (gS_hh h hi)
theorem jS_pp (ho : ok S) (h : 97 + sN T + sP T ≤ n) {i : Nat} (hi : i < sP T) : vAt n (jW cy ad S T ra le g0) (97 + sN T + i) (iA cy 5 (c5 (sQ T i))) := gV_o (by have := ho.1; have := ho.2.1; unfold gOut; omega) (gS_pp h hi)
theorem jS_upH (ho : ok S) {i : Nat} {f : Nat → Int32} (hi : i < sN T) : va_up (jW cy ad S T ra le g0) (97 + i) (cL f) = jW cy ad S (setH T (va_up (sH T) i f)) ra le g0 := by
  unfold jW
  rw [gV_upo (by have := ho.1; have := ho.2.1; unfold gOut; omega), gS_upH hi]
/-- the class's object -/
theorem jS_r (hB : BJ cy ad S ra le g0) (hn : 54 ≤ n) {S' T' : tS} {ra' le' : Nat → Int32} : vAt n (jW cy ad S' T' ra' le' g0) 0 (.inr (4, [.ref (ad 1), .ref (ad 4), .ref (ad 29)])) := ((hB.R (T := T') (ra' := ra') (le' := le') hn).v (S := S')).2
end JS
theorem IN_add {a j b : Nat} (h : a + j ≤ b) (hb : b < 2 ^ 31) : IN (nI a + nI j) (nI a) (nI b) := by
  rw [nI_add]
  exact ⟨nI_le (by omega) (by omega), nI_le h hb⟩
theorem IN_0 {j b : Nat} (h : j ≤ b) (hb : b < 2 ^ 31) : IN (nI j) 0 (nI b) := ⟨nI_pos' (by omega), nI_le h hb⟩
theorem nI_mul (a b : Nat) : nI a * nI b = nI (a * b) := (Int32.ofNat_mul a b).symm
section BD
variable {l : Launch} {p : Program} {e : Env} {s : State} {m : MethodId} {A : Array Value} {below : List Frame} {meth : Method} {c : Code} {Q : State → Prop} {z0 n : Nat} {D : va_G} {cy : Nat → ClassId} {ad : Nat → Nat}
set_option maxRecDepth 100000 in
set_option maxHeartbeats 4000000 in
/-- the pipes -/
theorem v_bD (X : vCx p s m A c cL_build RL 9 z0 D cy) {N P0 : Nat} (hN1 : 1 ≤ N) (hN8 : N ≤ 8) (hP0 : P0 ≤ 8) (h2 : N < 2 → P0 = 0) {ra le : Nat → Int32} {g0 : Nat → va_E} {ad0 : Nat → Nat}
    (hend : ∀ (ad : Nat → Nat) (S : tS) (cells slots : Nat), (∀ j, j < 54 → ad j = ad0 j) → sN S = N → sP S = P0 → IJ cy ad S ra le g0 0 → cells ≤ 110 → slots ≤ 600 → vV p l e { frames := 14, cells := 110, slots := 600, locals := 300 } s m A below meth c 9 z0 D cells slots Q (97 + sN S + sP S) ad (jW cy ad S S ra le g0) 494 [some (.ref (ad 0)), some (.ref (cy 9)), some (.ref (ad 54)), some (.int (nI N)), some (.int (nI P0)), some (.int (nI P0)), none, none, none] []) :
    ∀ (q k : Nat), q + k = P0 → ∀ (ad : Nat → Nat) (S : tS), (∀ j, j < 54 → ad j = ad0 j) → sN S = N → sP S = k → IJ cy ad S ra le g0 0 → vV p l e { frames := 14, cells := 110, slots := 600, locals := 300 } s m A below meth c 9 z0 D (87 + 2 * k) (427 + 18 * k) Q (97 + sN S + sP S) ad (jW cy ad S S ra le g0) 391 [some (.ref (ad 0)), some (.ref (cy 9)), some (.ref (ad 54)), some (.int (nI N)), some (.int (nI P0)), some (.int (nI k)), none, none, none] [] := by
  intro q
  induction q with
  | zero =>
    intro k hk ad S had hSN hSP hI
    have : k = P0 := by omega
    subst this
    refine v_iload X dL_build_391 rfl ?_
    refine v_iload X dL_build_393 rfl ?_
    refine v_icmp_ge (tgt := 494) X dL_build_395 (by decide) (fun hc => ?_) (fun hc => ?_)
    · exact hend ad S _ _ had hSN hSP hI (by omega) (by omega)
    · exact absurd (Int32.le_refl _) hc
  | succ q ih =>
    intro k hk ad S had hSN hSP hI
    obtain ⟨ho, hdb, hwk, hd, hB⟩ := hI
    have hN2 : 2 ≤ N := by
      rcases Nat.lt_or_ge N 2 with h | h
      · have := h2 h; omega
      · exact h
    have eN1 : nI N - 1 = nI (N - 1) := by
      obtain ⟨M, rfl⟩ : ∃ M, N = M + 1 := ⟨N - 1, by omega⟩
      exact nI_pred M
    refine v_iload X dL_build_391 rfl ?_
    refine v_iload X dL_build_393 rfl ?_
    refine v_icmp_ge (tgt := 494) X dL_build_395 (by decide) (fun hc => ?_) (fun hc => ?_)
    · exact absurd hc (nIge (by omega) (by omega))
    refine v_aload1 X dL_build_398 rfl ?_
    refine v_bip (v := 10) X dL_build_399 (by decide) ?_
    refine v_cell X dL_build_401 (j := 10) rfl (by omega) (Nat.le_of_ble_eq_true rfl) ⟨(Nat.le_of_ble_eq_true rfl), (Nat.le_of_ble_eq_true rfl), (by first | (show _ ≤ 110; omega) | (show _ ≤ 600; omega)), (by first | (show _ ≤ 110; omega) | (show _ ≤ 600; omega))⟩ fun x401 => ?_
    refine v_ico (v := 2) X dL_build_404 (by decide) ?_
    refine v_iload X dL_build_405 rfl ?_
    refine v_imul X dL_build_407 ?_
    refine v_ishr X dL_build_408 ?_
    refine v_iload3 X dL_build_409 rfl ?_
    refine v_below X dL_build_410 (N := N) rfl (by omega) (by omega) (Nat.le_of_ble_eq_true rfl) ⟨(Nat.le_of_ble_eq_true rfl), (Nat.le_of_ble_eq_true rfl), (by first | (show _ ≤ 110; omega) | (show _ ≤ 600; omega)), (by first | (show _ ≤ 110; omega) | (show _ ≤ 600; omega))⟩ ?_
    refine v_istore6 X rfl (Nat.le_of_ble_eq_true rfl) dL_build_413 ?_
    refine v_iload X dL_build_415 rfl ?_
    refine v_ico (v := 1) X dL_build_417 (by decide) ?_
    refine v_iadd X dL_build_418 ?_
    refine v_aload1 X dL_build_419 rfl ?_
    refine v_bip (v := 11) X dL_build_420 (by decide) ?_
    refine v_cell X dL_build_422 (j := 11) rfl (by omega) (Nat.le_of_ble_eq_true rfl) ⟨(Nat.le_of_ble_eq_true rfl), (Nat.le_of_ble_eq_true rfl), (by first | (show _ ≤ 110; omega) | (show _ ≤ 600; omega)), (by first | (show _ ≤ 110; omega) | (show _ ≤ 600; omega))⟩ fun x422 => ?_
    refine v_ico (v := 2) X dL_build_425 (by decide) ?_
    refine v_iload X dL_build_426 rfl ?_
    refine v_imul X dL_build_428 ?_
    refine v_ishr X dL_build_429 ?_
    refine v_iload3 X dL_build_430 rfl ?_
    refine v_ico (v := 1) X dL_build_431 (by decide) ?_
    refine v_isub X dL_build_432 ?_
    refine v_below X dL_build_433 (N := N - 1) eN1 (by omega) (by omega) (Nat.le_of_ble_eq_true rfl) ⟨(Nat.le_of_ble_eq_true rfl), (Nat.le_of_ble_eq_true rfl), (by first | (show _ ≤ 110; omega) | (show _ ≤ 600; omega)), (by first | (show _ ≤ 110; omega) | (show _ ≤ 600; omega))⟩ ?_
    generalize hav : bel (x401 >>> (2 * nI k &&& 31)) N = a
    have ha : a < sN S := by rw [hSN, ← hav]; exact bel_lt _ (by omega)
    generalize hcv : bel (x422 >>> (2 * nI k &&& 31)) (N - 1) = c0
    have hc0 : c0 < N - 1 := by rw [← hcv]; exact bel_lt _ (by omega)
    refine v_iadd X dL_build_436 ?_
    refine v_iload3 X dL_build_437 rfl ?_
    refine v_irem X dL_build_438 (nI_ne0 (by omega) (by omega)) ?_
    refine vV.top (congrArg Value.int (show nI a + 1 + nI c0 - (nI a + 1 + nI c0) / nI N * nI N = nI ((a + 1 + c0) % N) from by rw [nI_1, nI_add]; exact pk_rem (by omega) (by omega) (by omega))) ?_
    generalize hbv : (a + 1 + c0) % N = b
    have hb : b < sN S := by rw [hSN, ← hbv]; exact Nat.mod_lt _ (by omega)
    have hab : a ≠ b := by
      intro e
      rw [← hbv] at e
      rcases Nat.lt_or_ge (a + 1 + c0) N with h | h
      · rw [Nat.mod_eq_of_lt h] at e; omega
      · rw [Nat.mod_eq_sub_mod h, Nat.mod_eq_of_lt (by omega)] at e; omega
    refine v_istore7 X rfl (Nat.le_of_ble_eq_true rfl) dL_build_439 ?_
    refine v_ico (v := 1) X dL_build_441 (by decide) ?_
    refine v_aload1 X dL_build_442 rfl ?_
    refine v_bip (v := 12) X dL_build_443 (by decide) ?_
    refine v_cell X dL_build_445 (j := 12) rfl (by omega) (Nat.le_of_ble_eq_true rfl) ⟨(Nat.le_of_ble_eq_true rfl), (Nat.le_of_ble_eq_true rfl), (by first | (show _ ≤ 110; omega) | (show _ ≤ 600; omega)), (by first | (show _ ≤ 110; omega) | (show _ ≤ 600; omega))⟩ fun x445 => ?_
    refine v_ico (v := 2) X dL_build_448 (by decide) ?_
    refine v_iload X dL_build_449 rfl ?_
    refine v_imul X dL_build_451 ?_
    refine v_ishr X dL_build_452 ?_
    refine v_bip (v := 50) X dL_build_453 (by decide) ?_
    refine v_below X dL_build_455 (N := 50) rfl (by omega) (by omega) (Nat.le_of_ble_eq_true rfl) ⟨(Nat.le_of_ble_eq_true rfl), (Nat.le_of_ble_eq_true rfl), (by first | (show _ ≤ 110; omega) | (show _ ≤ 600; omega)), (by first | (show _ ≤ 110; omega) | (show _ ≤ 600; omega))⟩ ?_
    refine v_iadd X dL_build_458 ?_
    generalize hcv' : bel (x445 >>> (2 * nI k &&& 31)) 50 = t
    have ht : t < 50 := by rw [← hcv']; exact bel_lt _ (by omega)
    have hv : IN (1 + nI t) 1 50 := IN_add (a := 1) (b := 50) (by omega) (by omega)
    have hoL := layT_ok ho ha hb hab hv (by omega)
    refine v_istore8 X rfl (Nat.le_of_ble_eq_true rfl) dL_build_459 ?_
    refine v_aload0 X dL_build_461 rfl ?_
    refine v_iload X dL_build_462 rfl ?_
    refine v_iload X dL_build_464 rfl ?_
    refine v_iload X dL_build_466 rfl ?_
    refine cd_L_60 X dL_build_468 (c_lay l (hB.R (by omega)) ho ha hb hab hv (by omega) (hB.p (by omega) (by omega))) (jS_r hB (by omega)) rfl (Nat.le_of_ble_eq_true rfl) ⟨(Nat.le_of_ble_eq_true rfl), (Nat.le_of_ble_eq_true rfl), (by first | (show _ ≤ 110; omega) | (show _ ≤ 600; omega)), (by first | (show _ ≤ 110; omega) | (show _ ≤ 600; omega))⟩ ?_
    refine v_iload X dL_build_471 rfl ?_
    refine v_icmp_eq (tgt := 478) X dL_build_473 (by decide) (fun _ => ?_) (fun hc => absurd (by rw [hSP]) hc)
    refine vV.gg (jW_c ho.1 (by show sP S + 1 ≤ 12; omega)) ?_
    refine v_aload2 X dL_build_478 rfl ?_
    refine v_iload X dL_build_479 rfl ?_
    refine v_iload X dL_build_481 rfl ?_
    refine v_iload X dL_build_483 rfl ?_
    refine cl_L_63 X dL_build_485 (c_X6_lay l rfl (by omega) ho.1) (gS_s (Nat.le_refl _)) rfl (Nat.le_of_ble_eq_true rfl) ⟨rfl, rfl, Nat.le_of_ble_eq_true rfl, Nat.le_of_ble_eq_true rfl, by show _ ≤ 110; omega, by show _ ≤ 600; omega⟩ ?_
    rintro r n' ad2 g2 ⟨rfl, rfl, a2, w2⟩
    refine vV.eqn (pc' := 488) (st' := []) ?_ rfl rfl rfl
    refine vV.eqw (ad' := ad2) (g' := jW cy ad2 (layT (nI a) (nI b) (1 + nI t) S) (layT (nI a) (nI b) (1 + nI t) S) ra le g0) (fun _ _ => rfl) (fun k1 hk1 => ?_) ?_
    · rw [jW_c hoL.1 hoL.2.1, jW_gV (fun j hj => a2 j (by omega))]
      exact (w2 k1 hk1).symm
    rw [← a2 0 (by omega), ← a2 54 (by omega)]
    refine v_iinc5 (v := nI (k + 1)) X rfl (Nat.le_of_ble_eq_true rfl) dL_build_488 (nI_inc k) ?_
    refine v_goto (tgt := 391) X dL_build_491 (by decide) ?_
    have i1 := ih (k + 1) (by omega) ad2 (layT (nI a) (nI b) (1 + nI t) S) (fun j hj => (a2 j (by omega)).trans (had j hj)) hSN (by show sP S + 1 = k + 1; rw [hSP]) ⟨hoL, ⟨db_lay hdb.1, cons_h hdb.2 rfl (fun _ => rfl) (fun _ => rfl) rfl⟩, hwk, hd, (hB.to (T := layT (nI a) (nI b) (1 + nI t) S) (Nat.le_refl _) (Nat.le_succ _)).adr (fun j hj => a2 j (by omega))⟩
    exact (vV.le (by exact ⟨rfl, rfl, rfl, rfl, rfl, rfl, trivial⟩) i1).wd (by omega) (by omega)
theorem j_leads (l : Launch) {S T : tS} {ra le : Nat → Int32} {g0 : Nat → va_E} {y : Int32} (ho : ok S) (hn : 97 + sN T + sP T ≤ n) (hN : sN T ≤ 10) (k a : Nat) (ha : a < sN T) (ht : Ter (sN T) (sH T) k (sH T a 6)) : Ct0 l yX6_leads cX6_leads 3 (some FieldType.boolean) (k + 1) (22 * (k + 1)) z0 D cy n ad (jW cy ad S T ra le g0) [.ref (ad 54), .int (nI a), .int y] (some (.int (bI (thru (k + 1) (sH T) (nI a) y)))) (jW cy ad S T ra le g0) := by
  rw [jW_c ho.1 ho.2.1]
  exact c_X6_leads l hn hN k a ha ht
theorem j_behind (l : Launch) {S T : tS} {ra le : Nat → Int32} {g0 : Nat → va_E} {k : Nat} {x : Int32} (ho : ok S) (hn : 97 + sN T + sP T ≤ n) (hN : sN T ≤ 10) (ht : Ter (sN T) (sH T) k x) : Ct0 l yX6_behind cX6_behind 2 (some FieldType.int) (k + 1) (40 + 21 * k) z0 D cy n ad (jW cy ad S T ra le g0) [.ref (ad 54), .int x] (some (.int (nI k))) (jW cy ad S T ra le g0) := by
  rw [jW_c ho.1 ho.2.1]
  exact c_X6_behind l hn hN k ht
set_option maxRecDepth 100000 in
set_option maxHeartbeats 4000000 in
/-- the chains -/
theorem v_bC (X : vCx p s m A c cL_build RL 9 z0 D cy) {N cells slots : Nat} (hN1 : 1 ≤ N) (hN8 : N ≤ 8) (hcl : cells ≤ 110) (hsl : slots ≤ 600) {ra le : Nat → Int32} {g0 : Nat → va_E}
    (hend : ∀ S : tS, sN S = N → sP S = 0 → IJ cy ad S ra le g0 0 → vV p l e { frames := 14, cells := 110, slots := 600, locals := 300 } s m A below meth c 9 z0 D cells slots Q (97 + sN S + sP S) ad (jW cy ad S S ra le g0) 366 [some (.ref (ad 0)), some (.ref (cy 9)), some (.ref (ad 54)), some (.int (nI N)), none, none, none, none, none] []) :
    ∀ (q k : Nat), q + k = N → ∀ (S : tS), sN S = N → sP S = 0 → IJ cy ad S ra le g0 0 → vV p l e { frames := 14, cells := 110, slots := 600, locals := 300 } s m A below meth c 9 z0 D cells slots Q (97 + sN S + sP S) ad (jW cy ad S S ra le g0) 276 [some (.ref (ad 0)), some (.ref (cy 9)), some (.ref (ad 54)), some (.int (nI N)), some (.int (nI k)), none, none, none, none] [] := by
  intro q
  induction q with
  | zero =>
    intro k hk S hSN hSP hI
    have : k = N := by omega
    subst this
    refine v_iload X dL_build_276 rfl ?_
    refine v_iload3 X dL_build_278 rfl ?_
    refine v_icmp_ge (tgt := 366) X dL_build_279 (by decide) (fun hc => ?_) (fun hc => ?_)
    · exact vV.le (by exact ⟨rfl, rfl, rfl, rfl, trivial⟩) (hend S hSN hSP hI)
    · exact absurd (Int32.le_refl _) hc
  | succ q ih =>
    intro k hk S hSN hSP hI
    obtain ⟨ho, hdb, hwk, hd, hB⟩ := id hI
    -- to the next house
    have hnext : ∀ (S' : tS) (o : Int32), sN S' = N → sP S' = 0 → IJ cy ad S' ra le g0 0 → vV p l e { frames := 14, cells := 110, slots := 600, locals := 300 } s m A below meth c 9 z0 D cells slots Q (97 + sN S' + sP S') ad (jW cy ad S' S' ra le g0) 360 [some (.ref (ad 0)), some (.ref (cy 9)), some (.ref (ad 54)), some (.int (nI N)), some (.int (nI k)), some (.int o), none, none, none] [] := by
      intro S' o h1 h2 h3
      refine v_iinc4 (v := nI (k + 1)) X rfl (Nat.le_of_ble_eq_true rfl) dL_build_360 (nI_inc k) ?_
      refine v_goto (tgt := 276) X dL_build_363 (by decide) ?_
      exact vV.le (by exact ⟨rfl, rfl, rfl, rfl, rfl, trivial⟩) (ih (k + 1) (by omega) S' h1 h2 h3)
    -- the chain is laid
    have hset : ∀ (kk : Nat) (o : Int32), kk ≤ 10 → Ter (sN S) (sH S) kk o → thru kk (sH S) o (nI k) = false → (o = -1 ∨ hasB (sN S) o = 1) → nI k ≠ o → vV p l e { frames := 14, cells := 110, slots := 600, locals := 300 } s m A below meth c 9 z0 D cells slots Q (97 + sN S + sP S) ad (jW cy ad S S ra le g0) 329 [some (.ref (ad 0)), some (.ref (cy 9)), some (.ref (ad 54)), some (.int (nI N)), some (.int (nI k)), some (.int o), none, none, none] [] := by
      intro kk o hkk ht h4 h2 h3
      obtain ⟨hc1, hc2⟩ := chT_ok (h := k) ho (by omega) ht h4
      refine v_aload2 X dL_build_329 rfl ?_
      refine gf_L_43 X dL_build_330 (jS_s ho (Nat.le_refl _)) ?_
      refine v_iload X dL_build_333 rfl ?_
      refine v_aaldL X dL_build_335 (jS_h ho (Nat.le_refl _)) rfl (by omega) (by omega) ?_
      refine v_iload X dL_build_336 rfl ?_
      refine pf_L_47 X dL_build_338 (jS_hh ho (Nat.le_refl _) (by omega)) ?_
      refine vV.gg (jS_upH (f := upd (sH S k) 6 o) ho (by omega)) ?_
      show vV p l e { frames := 14, cells := 110, slots := 600, locals := 300 } s m A below meth c 9 z0 D cells slots Q (97 + sN S + sP S) ad (jW cy ad S (chT k o S) ra le g0) 341 [some (.ref (ad 0)), some (.ref (cy 9)), some (.ref (ad 54)), some (.int (nI N)), some (.int (nI k)), some (.int o), none, none, none] []
      refine v_aload0 X dL_build_341 rfl ?_
      refine v_iload X dL_build_342 rfl ?_
      refine v_iload X dL_build_344 rfl ?_
      refine cd_L_53 X dL_build_346 (c_chain l (hB.R (by omega)) ho (by omega) h2 h3 ht h4 hc1 hc2) (jS_r hB (by omega)) rfl (Nat.le_of_ble_eq_true rfl) ⟨(by first | exact Nat.le_of_ble_eq_true rfl | (show k1 + 1 + 1 ≤ 14; omega) | (show 8 + (3 + 11) + 22 * (k1 + 1) ≤ 300; omega) | (show kk + 1 + 1 ≤ 14; omega) | (show 8 + (2 + 11) + (40 + 21 * kk) ≤ 300; omega)), (by first | exact Nat.le_of_ble_eq_true rfl | (show k1 + 1 + 1 ≤ 14; omega) | (show 8 + (3 + 11) + 22 * (k1 + 1) ≤ 300; omega) | (show kk + 1 + 1 ≤ 14; omega) | (show 8 + (2 + 11) + (40 + 21 * kk) ≤ 300; omega)), (by first | (show _ ≤ 110; omega) | (show _ ≤ 600; omega)), (by first | (show _ ≤ 110; omega) | (show _ ≤ 600; omega))⟩ ?_
      show vV p l e { frames := 14, cells := 110, slots := 600, locals := 300 } s m A below meth c 9 z0 D cells slots Q (97 + sN (chT k o S) + sP (chT k o S)) ad (jW cy ad (chT k o S) (chT k o S) ra le g0) 349 [some (.ref (ad 0)), some (.ref (cy 9)), some (.ref (ad 54)), some (.int (nI N)), some (.int (nI k)), some (.int o), none, none, none] [.int (nI kk)]
      refine v_aload2 X dL_build_349 rfl ?_
      refine v_iload X dL_build_350 rfl ?_
      refine cd_L_56 X dL_build_352 (j_behind l hc1 (Nat.le_refl _) ho.1 hc2) (jS_s hc1 (Nat.le_refl _)) rfl (Nat.le_of_ble_eq_true rfl) ⟨(by first | exact Nat.le_of_ble_eq_true rfl | (show k1 + 1 + 1 ≤ 14; omega) | (show 8 + (3 + 11) + 22 * (k1 + 1) ≤ 300; omega) | (show kk + 1 + 1 ≤ 14; omega) | (show 8 + (2 + 11) + (40 + 21 * kk) ≤ 300; omega)), (by first | exact Nat.le_of_ble_eq_true rfl | (show k1 + 1 + 1 ≤ 14; omega) | (show 8 + (3 + 11) + 22 * (k1 + 1) ≤ 300; omega) | (show kk + 1 + 1 ≤ 14; omega) | (show 8 + (2 + 11) + (40 + 21 * kk) ≤ 300; omega)), (by first | (show _ ≤ 110; omega) | (show _ ≤ 600; omega)), (by first | (show _ ≤ 110; omega) | (show _ ≤ 600; omega))⟩ ?_
      refine v_icmp_eq (tgt := 360) X dL_build_355 (by decide) (fun _ => ?_) (fun hc => absurd rfl hc)
      exact hnext (chT k o S) o hSN hSP ⟨hc1, ⟨hdb.1.qf rfl rfl rfl, cons_h hdb.2 rfl (fun i => va_o (upd_n _ _ (by decide)) i) (fun i => va_o (upd_n _ _ (by decide)) i) rfl⟩, hwk, hd, hB.to (Nat.le_refl _) (Nat.le_refl _)⟩
    refine v_iload X dL_build_276 rfl ?_
    refine v_iload3 X dL_build_278 rfl ?_
    refine v_icmp_ge (tgt := 366) X dL_build_279 (by decide) (fun hc => ?_) (fun hc => ?_)
    · exact absurd hc (nIge (by omega) (by omega))
    refine v_aload1 X dL_build_282 rfl ?_
    refine v_bip (v := 8) X dL_build_283 (by decide) ?_
    refine v_cell X dL_build_285 (j := 8) rfl (by omega) (Nat.le_of_ble_eq_true rfl) ⟨(by first | exact Nat.le_of_ble_eq_true rfl | (show k1 + 1 + 1 ≤ 14; omega) | (show 8 + (3 + 11) + 22 * (k1 + 1) ≤ 300; omega) | (show kk + 1 + 1 ≤ 14; omega) | (show 8 + (2 + 11) + (40 + 21 * kk) ≤ 300; omega)), (by first | exact Nat.le_of_ble_eq_true rfl | (show k1 + 1 + 1 ≤ 14; omega) | (show 8 + (3 + 11) + 22 * (k1 + 1) ≤ 300; omega) | (show kk + 1 + 1 ≤ 14; omega) | (show 8 + (2 + 11) + (40 + 21 * kk) ≤ 300; omega)), (by first | (show _ ≤ 110; omega) | (show _ ≤ 600; omega)), (by first | (show _ ≤ 110; omega) | (show _ ≤ 600; omega))⟩ fun x285 => ?_
    refine v_ico (v := 2) X dL_build_288 (by decide) ?_
    refine v_iload X dL_build_289 rfl ?_
    refine v_imul X dL_build_291 ?_
    refine v_ishr X dL_build_292 ?_
    refine v_iload3 X dL_build_293 rfl ?_
    refine v_ico (v := 1) X dL_build_294 (by decide) ?_
    refine v_iadd X dL_build_295 ?_
    refine v_below X dL_build_296 (N := N + 1) (nI_1 N) (by omega) (by omega) (Nat.le_of_ble_eq_true rfl) ⟨(by first | exact Nat.le_of_ble_eq_true rfl | (show k1 + 1 + 1 ≤ 14; omega) | (show 8 + (3 + 11) + 22 * (k1 + 1) ≤ 300; omega) | (show kk + 1 + 1 ≤ 14; omega) | (show 8 + (2 + 11) + (40 + 21 * kk) ≤ 300; omega)), (by first | exact Nat.le_of_ble_eq_true rfl | (show k1 + 1 + 1 ≤ 14; omega) | (show 8 + (3 + 11) + 22 * (k1 + 1) ≤ 300; omega) | (show kk + 1 + 1 ≤ 14; omega) | (show 8 + (2 + 11) + (40 + 21 * kk) ≤ 300; omega)), (by first | (show _ ≤ 110; omega) | (show _ ≤ 600; omega)), (by first | (show _ ≤ 110; omega) | (show _ ≤ 600; omega))⟩ ?_
    generalize hbv : bel (x285 >>> (2 * nI k &&& 31)) (N + 1) = b
    have hb : b < N + 1 := by rw [← hbv]; exact bel_lt _ (by omega)
    rcases b with _ | j1
    · refine v_ico (v := 1) X dL_build_299 (by decide) ?_
      refine v_isub X dL_build_300 ?_
      refine vV.top (w := .int (-1)) (by rfl) ?_
      refine v_istore5 X rfl (Nat.le_of_ble_eq_true rfl) dL_build_301 ?_
      refine v_iload X dL_build_303 rfl ?_
      refine v_iload X dL_build_305 rfl ?_
      refine v_icmp_eq (tgt := 360) X dL_build_307 (by decide) (fun h1 => ?_) (fun h1 => ?_)
      · exact absurd h1.symm (nI_m1 (by omega))
      refine v_iload X dL_build_310 rfl ?_
      refine v_if_lt (tgt := 329) X dL_build_312 (by decide) (fun h5 => ?_) (fun h5 => ?_)
      · exact hset 0 (-1) (by omega) rfl rfl (Or.inl rfl) (nI_m1 (by omega))
      · exact absurd (by decide) h5
    · refine v_ico (v := 1) X dL_build_299 (by decide) ?_
      refine v_isub X dL_build_300 ?_
      refine vV.top (congrArg Value.int (nI_pred j1)) ?_
      refine v_istore5 X rfl (Nat.le_of_ble_eq_true rfl) dL_build_301 ?_
      refine v_iload X dL_build_303 rfl ?_
      refine v_iload X dL_build_305 rfl ?_
      refine v_icmp_eq (tgt := 360) X dL_build_307 (by decide) (fun h1 => ?_) (fun h1 => ?_)
      · exact hnext S _ hSN hSP hI
      refine v_iload X dL_build_310 rfl ?_
      refine v_if_lt (tgt := 329) X dL_build_312 (by decide) (fun h5 => ?_) (fun h5 => ?_)
      · exact absurd h5 (nI_pos (by omega))
      have hj : j1 < sN S := by omega
      obtain ⟨k1, hj2⟩ := ho.2.2.2.2 j1 hj
      have hk1 : k1 + 1 ≤ 10 := by
        have t1 : Ter (sN S) (sH S) (k1 + 1) (nI j1) := ⟨j1, hj, rfl, hj2⟩
        have := t1.le ho.1
        have := ho.1
        omega
      refine v_aload2 X dL_build_315 rfl ?_
      refine v_iload X dL_build_316 rfl ?_
      refine v_iload X dL_build_318 rfl ?_
      refine cd_L_39 X dL_build_320 (j_leads l ho (Nat.le_refl _) ho.1 k1 j1 hj hj2) (jS_s ho (Nat.le_refl _)) rfl (Nat.le_of_ble_eq_true rfl) ⟨(by first | exact Nat.le_of_ble_eq_true rfl | (show k1 + 1 + 1 ≤ 14; omega) | (show 8 + (3 + 11) + 22 * (k1 + 1) ≤ 300; omega) | (show kk + 1 + 1 ≤ 14; omega) | (show 8 + (2 + 11) + (40 + 21 * kk) ≤ 300; omega)), (by first | exact Nat.le_of_ble_eq_true rfl | (show k1 + 1 + 1 ≤ 14; omega) | (show 8 + (3 + 11) + 22 * (k1 + 1) ≤ 300; omega) | (show kk + 1 + 1 ≤ 14; omega) | (show 8 + (2 + 11) + (40 + 21 * kk) ≤ 300; omega)), (by first | (show _ ≤ 110; omega) | (show _ ≤ 600; omega)), (by first | (show _ ≤ 110; omega) | (show _ ≤ 600; omega))⟩ ?_
      generalize hbb : thru (k1 + 1) (sH S) (nI j1) (nI k) = bb
      refine v_if_eq (tgt := 329) X dL_build_323 (by decide) (fun h6 => ?_) (fun h6 => ?_)
      · refine hset (k1 + 1) (nI j1) hk1 ⟨j1, hj, rfl, hj2⟩ ?_ (Or.inr (hasB_1 hj (by omega))) (fun q => h1 q.symm)
        rw [hbb]
        cases bb with
        | false => rfl
        | true => exact absurd h6 (by decide)
      · refine v_goto (tgt := 360) X dL_build_326 (by decide) ?_
        exact hnext S _ hSN hSP hI
end BD
