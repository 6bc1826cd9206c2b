/-! the law: the day as it was foreseen -/
/-- what was before the day, in arrays from the place n on -/
def SN (cy : Nat → ClassId) (N P n : Nat) (ad : Nat → Nat) (S : tS) (g : Nat → va_E) : Prop :=
  g n = aA cy N (rf ad (n + 1) N) ∧ rows cy (n + 1) N 10 g N (sH S) ∧ rowp cy (n + 1 + N) P g P (fun p => sQ S p 4) ∧ g (n + 1 + N + 1) = aA cy N (rf ad (n + 1 + N + 1 + 1) N) ∧ rows cy (n + 1 + N + 1 + 1) N N g N (fun k j => debtS (nI k) (nI j) S) ∧ rowp cy (n + 1 + N + 1 + 1 + N) 11 g 11 (totalS S)
theorem SN.eq {cy : Nat → ClassId} {N P n : Nat} {ad : Nat → Nat} {S : tS} {g g1 : Nat → va_E} (h : SN cy N P n ad S g) (q : ∀ k, n ≤ k → g1 k = g k) : SN cy N P n ad S g1 := by
  obtain ⟨h1, h2, ⟨f3, h3, h3'⟩, h4, h5, ⟨f6, h6, h6'⟩⟩ := h
  exact ⟨(q _ (by omega)).trans h1, fun k hk => by rw [q _ (by omega)]; exact h2 k hk, ⟨f3, (q _ (by omega)).trans h3, h3'⟩, (q _ (by omega)).trans h4, fun k hk => by rw [q _ (by omega)]; exact h5 k hk, ⟨f6, (q _ (by omega)).trans h6, h6'⟩⟩
section LE
variable {l : Launch} {p : Program} {e : Env} {s : State} {m : MethodId} {A : Array Value} {below : List Frame} {meth : Method} {c : Code} {Q : State → Prop} {z0 n cells slots t d N P w : Nat} {D : va_G} {cy : Nat → ClassId} {ad : Nat → Nat} {S S' : tS} {ra le : Nat → Int32} {g0 : Nat → va_E} {vL ms : Int32} {h : Nat}
set_option maxRecDepth 100000 in
set_option maxHeartbeats 4000000 in
/-- the first day of thirst, a day later -/
theorem v_l7b (X : vCx p s m A c cL_law RL 31 z0 D cy) (ho : ok S') (hwk : wok ra le) (hd : sM S' 0 = nI d) (hd9 : d ≤ 1000) (hN' : sN S' = N) (hP' : sP S' = P) (hn : n = 97 + N + P) (hN8 : N ≤ 8) (hP8 : P ≤ 8) (hh : h < N) {kC M : Nat} (hM : M = n + 1 + N + 1 + 1 + N + 1) (hB : BJ cy ad S' ra le g0) (hSN : SN cy N P n ad S g0) (hc : cells ≤ 600104) (hs : slots ≤ 7301314)
    (hl1 : vL = 1 ↔ ¬ sH S' h 9 = sH S h 9) (hl7 : sH S' h 7 = sH S h 7 ↔ sH S' h 9 = sH S h 9) (hld : ¬ vL ≤ 1 → (dtt ra le h (sH S' h 9) 200 1 S').1 = vL - 1)
    (kk : ∀ g : Nat → va_E, BJ cy ad S' ra le g → SN cy N P n ad S g → vV p l e room_1 s m A below meth c 31 z0 D cells slots Q M ad (jW cy ad S' S' ra le g) 533 [some (.ref (cy 9)), some (.ref (ad 0)), some (.ref (ad 54)), some (.int (nI N)), some (.int (nI t)), none, some (.ref (ad n)), some (.ref (ad (n + 1 + N))), some (.ref (ad (n + 1 + N + 1))), none, none, none, none, none, some (.ref (ad kC)), some (.ref (ad (56 + w))), some (.int ms), none, none, none, none, none, none, none, none, none, none, none, none, none, none] []) :
    vV p l e room_1 s m A below meth c 31 z0 D cells slots Q M ad (jW cy ad S' S' ra le g0) 454 [some (.ref (cy 9)), some (.ref (ad 0)), some (.ref (ad 54)), some (.int (nI N)), some (.int (nI t)), none, some (.ref (ad n)), some (.ref (ad (n + 1 + N))), some (.ref (ad (n + 1 + N + 1))), some (.int (nI h)), some (.int vL), none, none, none, some (.ref (ad kC)), some (.ref (ad (56 + w))), some (.int ms), none, none, none, none, none, none, none, none, none, none, none, none, none, none] [] := by
  have h506 : ∀ g : Nat → va_E, BJ cy ad S' ra le g → SN cy N P n ad S g → vV p l e room_1 s m A below meth c 31 z0 D cells slots Q M ad (jW cy ad S' S' ra le g) 506 [some (.ref (cy 9)), some (.ref (ad 0)), some (.ref (ad 54)), some (.int (nI N)), some (.int (nI t)), none, some (.ref (ad n)), some (.ref (ad (n + 1 + N))), some (.ref (ad (n + 1 + N + 1))), some (.int (nI h)), some (.int vL), none, none, none, some (.ref (ad kC)), some (.ref (ad (56 + w))), some (.int ms), none, none, none, none, none, none, none, none, none, none, none, none, none, none] [] := by
    intro g hB hSN
    obtain ⟨hw, hr, -⟩ := id hSN
    obtain ⟨f, hf, hf2⟩ := hr h hh
    refine v_iload X dL_law_506 rfl ?_
    refine v_ico (v := 1) X dL_law_508 (by decide) ?_
    refine v_icmp_eq (tgt := 533) X dL_law_509 (by decide) (fun c1 => ?_) (fun c1 => ?_)
    · exact vV.le (by exact ⟨rfl, rfl, rfl, rfl, rfl, rfl, rfl, rfl, rfl, rfl, rfl, trivial⟩) (kk g hB hSN)
    refine v_aload1 X dL_law_512 rfl ?_
    refine v_iload X dL_law_513 rfl ?_
    refine v_bip (v := 7) X dL_law_515 (by decide) ?_
    refine cd_L_103 X dL_law_517 (c_house l (j := 7) (hB.R (by omega)) ho (by omega) (by decide) (IN_0 (j := 7) (b := 9) (by decide) (by decide))) (jS_r hB (by omega)) rfl (Nat.le_of_ble_eq_true rfl) ⟨(Nat.le_of_ble_eq_true rfl), (Nat.le_of_ble_eq_true rfl), (by first | (show _ ≤ 600104; omega) | (show _ ≤ 7301314; omega)), (by first | (show _ ≤ 600104; omega) | (show _ ≤ 7301314; omega))⟩ ?_
    refine v_aload X dL_law_520 rfl ?_
    refine v_iload X dL_law_522 rfl ?_
    refine v_aaldR X dL_law_524 (jA ho (by omega) (by omega) hw) rfl hh (by omega) ?_
    refine v_bip (v := 7) X dL_law_525 (by decide) ?_
    refine v_iald X dL_law_527 (jA ho (by omega) (by omega) hf) rfl (by decide) (by decide) ?_
    refine v_icmp_eq (tgt := 533) X dL_law_528 (by decide) (fun _ => ?_) (fun hc => absurd ?_ hc)
    · exact vV.le (by exact ⟨rfl, rfl, rfl, rfl, rfl, rfl, rfl, rfl, rfl, rfl, rfl, trivial⟩) (kk g hB hSN)
    · rw [hf2 hh 7 (by decide)]
      exact hl7.mpr (Decidable.byContradiction (fun q => c1 (hl1.mpr q)))
  have h481 : ∀ g : Nat → va_E, BJ cy ad S' ra le g → SN cy N P n ad S g → vV p l e room_1 s m A below meth c 31 z0 D cells slots Q M ad (jW cy ad S' S' ra le g) 481 [some (.ref (cy 9)), some (.ref (ad 0)), some (.ref (ad 54)), some (.int (nI N)), some (.int (nI t)), none, some (.ref (ad n)), some (.ref (ad (n + 1 + N))), some (.ref (ad (n + 1 + N + 1))), some (.int (nI h)), some (.int vL), none, none, none, some (.ref (ad kC)), some (.ref (ad (56 + w))), some (.int ms), none, none, none, none, none, none, none, none, none, none, none, none, none, none] [] := by
    intro g hB hSN
    obtain ⟨hw, hr, -⟩ := id hSN
    obtain ⟨f, hf, hf2⟩ := hr h hh
    refine v_iload X dL_law_481 rfl ?_
    refine v_ico (v := 1) X dL_law_483 (by decide) ?_
    refine v_icmp_ne (tgt := 506) X dL_law_484 (by decide) (fun c1 => ?_) (fun c1 => ?_)
    · exact h506 g hB hSN
    refine v_aload1 X dL_law_487 rfl ?_
    refine v_iload X dL_law_488 rfl ?_
    refine v_bip (v := 7) X dL_law_490 (by decide) ?_
    refine cd_L_103 X dL_law_492 (c_house l (j := 7) (hB.R (by omega)) ho (by omega) (by decide) (IN_0 (j := 7) (b := 9) (by decide) (by decide))) (jS_r hB (by omega)) rfl (Nat.le_of_ble_eq_true rfl) ⟨(Nat.le_of_ble_eq_true rfl), (Nat.le_of_ble_eq_true rfl), (by first | (show _ ≤ 600104; omega) | (show _ ≤ 7301314; omega)), (by first | (show _ ≤ 600104; omega) | (show _ ≤ 7301314; omega))⟩ ?_
    refine v_aload X dL_law_495 rfl ?_
    refine v_iload X dL_law_497 rfl ?_
    refine v_aaldR X dL_law_499 (jA ho (by omega) (by omega) hw) rfl hh (by omega) ?_
    refine v_bip (v := 7) X dL_law_500 (by decide) ?_
    refine v_iald X dL_law_502 (jA ho (by omega) (by omega) hf) rfl (by decide) (by decide) ?_
    refine v_icmp_eq (tgt := 531) X dL_law_503 (by decide) (fun hc => absurd ?_ (hl1.mp c1)) (fun _ => ?_)
    · rw [hf2 hh 7 (by decide)] at hc
      exact hl7.mp hc
    · exact h506 g hB hSN
  refine v_iload X dL_law_454 rfl ?_
  refine v_ico (v := 1) X dL_law_456 (by decide) ?_
  refine v_icmp_le (tgt := 481) X dL_law_457 (by decide) (fun c1 => ?_) (fun c1 => ?_)
  · exact h481 g0 hB hSN
  refine v_iload X dL_law_460 rfl ?_
  refine v_sip (v := 200) X dL_law_462 (by decide) ?_
  refine v_icmp_ge (tgt := 481) X dL_law_465 (by decide) (fun c2 => ?_) (fun c2 => ?_)
  · exact h481 g0 hB hSN
  refine v_aload1 X dL_law_468 rfl ?_
  refine v_iload X dL_law_469 rfl ?_
  refine v_lasts (d := d) X dL_law_471 ho hwk hd hd9 hB (by omega) (by omega) (Nat.le_of_ble_eq_true rfl) ⟨by omega, by omega⟩ (fun g1 hB hg1 => ?_)
  refine v_iload X dL_law_474 rfl ?_
  refine v_ico (v := 1) X dL_law_476 (by decide) ?_
  refine v_isub X dL_law_477 ?_
  refine v_icmp_ne (tgt := 531) X dL_law_478 (by decide) (fun hc => absurd (hld c1) hc) (fun _ => ?_)
  exact h481 g1 hB (hSN.eq (fun k hk => hg1 k (by omega)))
set_option maxRecDepth 100000 in
set_option maxHeartbeats 4000000 in
/-- the village's numbers -/
theorem v_l7a (X : vCx p s m A c cL_law RL 31 z0 D cy) (ho : ok S') (hN' : sN S' = N) (hP' : sP S' = P) (hn : n = 97 + N + P) {M : Nat} (hM : M = n + 1 + N + 1 + 1 + N + 1) (hB : BJ cy ad S' ra le g0) (hSN : SN cy N P n ad S g0) (hc : cells ≤ 600104) (hs : slots ≤ 7301314)
    (h0 : sM S' 0 = nI t + 1) (h4 : sM S' 4 = sM S 4) (hop : openS S' = openS S) (hcons : cons S')
    (kk : vV p l e room_1 s m A below meth c 31 z0 D cells slots Q M ad (jW cy ad S' S' ra le g0) 454 [some (.ref (cy 9)), some (.ref (ad 0)), some (.ref (ad 54)), some (.int (nI N)), some (.int (nI t)), none, some (.ref (ad n)), some (.ref (ad (n + 1 + N))), some (.ref (ad (n + 1 + N + 1))), some (.int (nI h)), some (.int vL), none, none, none, some (.ref (ad (n + 1 + N + 1 + 1 + N))), some (.ref (ad (56 + w))), some (.int (sumS 7 S' - sumS 7 S)), none, none, none, none, none, none, none, none, none, none, none, none, none, none] []) :
    vV p l e room_1 s m A below meth c 31 z0 D cells slots Q M ad (jW cy ad S' S' ra le g0) 320 [some (.ref (cy 9)), some (.ref (ad 0)), some (.ref (ad 54)), some (.int (nI N)), some (.int (nI t)), none, some (.ref (ad n)), some (.ref (ad (n + 1 + N))), some (.ref (ad (n + 1 + N + 1))), some (.int (nI h)), some (.int vL), some (.int (sumS 7 S' - sumS 7 S)), some (.int (sumS 2 S')), some (.int (sM S' 2 - sM S 2)), some (.ref (ad (n + 1 + N + 1 + 1 + N))), some (.ref (ad (56 + w))), some (.int (sumS 7 S' - sumS 7 S)), none, none, none, none, none, none, none, none, none, none, none, none, none, none] [] := by
  obtain ⟨f, hf, hf2⟩ := hSN.2.2.2.2.2
  have f4 : f 4 = sumS 7 S := hf2 4 (by decide)
  have f6 : f 6 = sM S 2 := hf2 6 (by decide)
  have f9 : f 9 = sM S 4 := hf2 9 (by decide)
  have f10 : f 10 = openS S := hf2 10 (by decide)
  have t0 : totalS S' 0 = sM S' 0 := rfl
  have t3 : totalS S' 3 = sumS 2 S' := rfl
  have t4 : totalS S' 4 = sumS 7 S' := rfl
  have t5 : totalS S' 5 = sM S' 1 := rfl
  have t6 : totalS S' 6 = sM S' 2 := rfl
  have t7 : totalS S' 7 = sM S' 3 := rfl
  have t8 : totalS S' 8 = sumS 8 S' := rfl
  have t9 : totalS S' 9 = sM S' 4 := rfl
  have t10 : totalS S' 10 = openS S' := rfl
  refine v_iload X dL_law_320 rfl ?_
  refine v_iload X dL_law_322 rfl ?_
  refine v_icmp_ne (tgt := 409) X dL_law_324 (by decide) (fun hc => absurd rfl hc) (fun _ => ?_)
  refine v_aload1 X dL_law_327 rfl ?_
  refine v_ico (v := 3) X dL_law_328 (by decide) ?_
  refine cd_L_118 X dL_law_329 (c_count l (j := 3) (hB.R (by omega)) ho (by decide) (IN_0 (j := 3) (b := 10) (by decide) (by decide))) (jS_r hB (by omega)) rfl (Nat.le_of_ble_eq_true rfl) ⟨(Nat.le_of_ble_eq_true rfl), (Nat.le_of_ble_eq_true rfl), (by first | (show _ ≤ 600104; omega) | (show _ ≤ 7301314; omega)), (by first | (show _ ≤ 600104; omega) | (show _ ≤ 7301314; omega))⟩ ?_
  refine v_iload X dL_law_332 rfl ?_
  refine v_icmp_ne (tgt := 409) X dL_law_334 (by decide) (fun hc => absurd rfl hc) (fun _ => ?_)
  refine v_aload1 X dL_law_337 rfl ?_
  refine v_bip (v := 6) X dL_law_338 (by decide) ?_
  refine cd_L_118 X dL_law_340 (c_count l (j := 6) (hB.R (by omega)) ho (by decide) (IN_0 (j := 6) (b := 10) (by decide) (by decide))) (jS_r hB (by omega)) rfl (Nat.le_of_ble_eq_true rfl) ⟨(Nat.le_of_ble_eq_true rfl), (Nat.le_of_ble_eq_true rfl), (by first | (show _ ≤ 600104; omega) | (show _ ≤ 7301314; omega)), (by first | (show _ ≤ 600104; omega) | (show _ ≤ 7301314; omega))⟩ ?_
  refine v_aload X dL_law_343 rfl ?_
  refine v_bip (v := 6) X dL_law_345 (by decide) ?_
  refine v_iald X dL_law_347 (jA ho (by omega) (by omega) hf) rfl (by decide) (by decide) ?_
  refine v_iload X dL_law_348 rfl ?_
  refine v_iadd X dL_law_350 ?_
  refine v_icmp_ne (tgt := 409) X dL_law_351 (by decide) (fun hc => absurd (by rw [t6, f6]; grind) hc) (fun _ => ?_)
  refine v_aload1 X dL_law_354 rfl ?_
  refine v_ico (v := 0) X dL_law_355 (by decide) ?_
  refine cd_L_118 X dL_law_356 (c_count l (j := 0) (hB.R (by omega)) ho (by decide) (IN_0 (j := 0) (b := 10) (by decide) (by decide))) (jS_r hB (by omega)) rfl (Nat.le_of_ble_eq_true rfl) ⟨(Nat.le_of_ble_eq_true rfl), (Nat.le_of_ble_eq_true rfl), (by first | (show _ ≤ 600104; omega) | (show _ ≤ 7301314; omega)), (by first | (show _ ≤ 600104; omega) | (show _ ≤ 7301314; omega))⟩ ?_
  refine v_iload X dL_law_359 rfl ?_
  refine v_ico (v := 1) X dL_law_361 (by decide) ?_
  refine v_iadd X dL_law_362 ?_
  refine v_icmp_ne (tgt := 409) X dL_law_363 (by decide) (fun hc => absurd (by rw [t0, h0]) hc) (fun _ => ?_)
  refine v_aload1 X dL_law_366 rfl ?_
  refine v_ico (v := 4) X dL_law_367 (by decide) ?_
  refine cd_L_118 X dL_law_368 (c_count l (j := 4) (hB.R (by omega)) ho (by decide) (IN_0 (j := 4) (b := 10) (by decide) (by decide))) (jS_r hB (by omega)) rfl (Nat.le_of_ble_eq_true rfl) ⟨(Nat.le_of_ble_eq_true rfl), (Nat.le_of_ble_eq_true rfl), (by first | (show _ ≤ 600104; omega) | (show _ ≤ 7301314; omega)), (by first | (show _ ≤ 600104; omega) | (show _ ≤ 7301314; omega))⟩ ?_
  refine v_aload X dL_law_371 rfl ?_
  refine v_ico (v := 4) X dL_law_373 (by decide) ?_
  refine v_iald X dL_law_374 (jA ho (by omega) (by omega) hf) rfl (by decide) (by decide) ?_
  refine v_iload X dL_law_375 rfl ?_
  refine v_iadd X dL_law_377 ?_
  refine v_icmp_ne (tgt := 409) X dL_law_378 (by decide) (fun hc => absurd (by rw [t4, f4]; grind) hc) (fun _ => ?_)
  refine v_aload1 X dL_law_381 rfl ?_
  refine v_bip (v := 9) X dL_law_382 (by decide) ?_
  refine cd_L_118 X dL_law_384 (c_count l (j := 9) (hB.R (by omega)) ho (by decide) (IN_0 (j := 9) (b := 10) (by decide) (by decide))) (jS_r hB (by omega)) rfl (Nat.le_of_ble_eq_true rfl) ⟨(Nat.le_of_ble_eq_true rfl), (Nat.le_of_ble_eq_true rfl), (by first | (show _ ≤ 600104; omega) | (show _ ≤ 7301314; omega)), (by first | (show _ ≤ 600104; omega) | (show _ ≤ 7301314; omega))⟩ ?_
  refine v_aload X dL_law_387 rfl ?_
  refine v_bip (v := 9) X dL_law_389 (by decide) ?_
  refine v_iald X dL_law_391 (jA ho (by omega) (by omega) hf) rfl (by decide) (by decide) ?_
  refine v_icmp_ne (tgt := 409) X dL_law_392 (by decide) (fun hc => absurd (by rw [t9, f9, h4]) hc) (fun _ => ?_)
  refine v_aload1 X dL_law_395 rfl ?_
  refine v_bip (v := 10) X dL_law_396 (by decide) ?_
  refine cd_L_118 X dL_law_398 (c_count l (j := 10) (hB.R (by omega)) ho (by decide) (IN_0 (j := 10) (b := 10) (by decide) (by decide))) (jS_r hB (by omega)) rfl (Nat.le_of_ble_eq_true rfl) ⟨(Nat.le_of_ble_eq_true rfl), (Nat.le_of_ble_eq_true rfl), (by first | (show _ ≤ 600104; omega) | (show _ ≤ 7301314; omega)), (by first | (show _ ≤ 600104; omega) | (show _ ≤ 7301314; omega))⟩ ?_
  refine v_aload X dL_law_401 rfl ?_
  refine v_bip (v := 10) X dL_law_403 (by decide) ?_
  refine v_iald X dL_law_405 (jA ho (by omega) (by omega) hf) rfl (by decide) (by decide) ?_
  refine v_icmp_eq (tgt := 411) X dL_law_406 (by decide) (fun _ => ?_) (fun hc => absurd (by rw [t10, f10, hop]) hc)
  refine v_aload1 X dL_law_411 rfl ?_
  refine v_ico (v := 5) X dL_law_412 (by decide) ?_
  refine cd_L_118 X dL_law_413 (c_count l (j := 5) (hB.R (by omega)) ho (by decide) (IN_0 (j := 5) (b := 10) (by decide) (by decide))) (jS_r hB (by omega)) rfl (Nat.le_of_ble_eq_true rfl) ⟨(Nat.le_of_ble_eq_true rfl), (Nat.le_of_ble_eq_true rfl), (by first | (show _ ≤ 600104; omega) | (show _ ≤ 7301314; omega)), (by first | (show _ ≤ 600104; omega) | (show _ ≤ 7301314; omega))⟩ ?_
  refine v_aload1 X dL_law_416 rfl ?_
  refine v_bip (v := 9) X dL_law_417 (by decide) ?_
  refine cd_L_118 X dL_law_419 (c_count l (j := 9) (hB.R (by omega)) ho (by decide) (IN_0 (j := 9) (b := 10) (by decide) (by decide))) (jS_r hB (by omega)) rfl (Nat.le_of_ble_eq_true rfl) ⟨(Nat.le_of_ble_eq_true rfl), (Nat.le_of_ble_eq_true rfl), (by first | (show _ ≤ 600104; omega) | (show _ ≤ 7301314; omega)), (by first | (show _ ≤ 600104; omega) | (show _ ≤ 7301314; omega))⟩ ?_
  refine v_iadd X dL_law_422 ?_
  refine v_aload1 X dL_law_423 rfl ?_
  refine v_ico (v := 3) X dL_law_424 (by decide) ?_
  refine cd_L_118 X dL_law_425 (c_count l (j := 3) (hB.R (by omega)) ho (by decide) (IN_0 (j := 3) (b := 10) (by decide) (by decide))) (jS_r hB (by omega)) rfl (Nat.le_of_ble_eq_true rfl) ⟨(Nat.le_of_ble_eq_true rfl), (Nat.le_of_ble_eq_true rfl), (by first | (show _ ≤ 600104; omega) | (show _ ≤ 7301314; omega)), (by first | (show _ ≤ 600104; omega) | (show _ ≤ 7301314; omega))⟩ ?_
  refine v_aload1 X dL_law_428 rfl ?_
  refine v_bip (v := 6) X dL_law_429 (by decide) ?_
  refine cd_L_118 X dL_law_431 (c_count l (j := 6) (hB.R (by omega)) ho (by decide) (IN_0 (j := 6) (b := 10) (by decide) (by decide))) (jS_r hB (by omega)) rfl (Nat.le_of_ble_eq_true rfl) ⟨(Nat.le_of_ble_eq_true rfl), (Nat.le_of_ble_eq_true rfl), (by first | (show _ ≤ 600104; omega) | (show _ ≤ 7301314; omega)), (by first | (show _ ≤ 600104; omega) | (show _ ≤ 7301314; omega))⟩ ?_
  refine v_iadd X dL_law_434 ?_
  refine v_aload1 X dL_law_435 rfl ?_
  refine v_bip (v := 7) X dL_law_436 (by decide) ?_
  refine cd_L_118 X dL_law_438 (c_count l (j := 7) (hB.R (by omega)) ho (by decide) (IN_0 (j := 7) (b := 10) (by decide) (by decide))) (jS_r hB (by omega)) rfl (Nat.le_of_ble_eq_true rfl) ⟨(Nat.le_of_ble_eq_true rfl), (Nat.le_of_ble_eq_true rfl), (by first | (show _ ≤ 600104; omega) | (show _ ≤ 7301314; omega)), (by first | (show _ ≤ 600104; omega) | (show _ ≤ 7301314; omega))⟩ ?_
  refine v_iadd X dL_law_441 ?_
  refine v_aload1 X dL_law_442 rfl ?_
  refine v_bip (v := 8) X dL_law_443 (by decide) ?_
  refine cd_L_118 X dL_law_445 (c_count l (j := 8) (hB.R (by omega)) ho (by decide) (IN_0 (j := 8) (b := 10) (by decide) (by decide))) (jS_r hB (by omega)) rfl (Nat.le_of_ble_eq_true rfl) ⟨(Nat.le_of_ble_eq_true rfl), (Nat.le_of_ble_eq_true rfl), (by first | (show _ ≤ 600104; omega) | (show _ ≤ 7301314; omega)), (by first | (show _ ≤ 600104; omega) | (show _ ≤ 7301314; omega))⟩ ?_
  refine v_iadd X dL_law_448 ?_
  refine v_icmp_eq (tgt := 454) X dL_law_449 (by decide) (fun _ => ?_) (fun hc => absurd (by rw [t5, t9, t3, t6, t7, t8]; exact hcons) hc)
  exact vV.le (by exact ⟨rfl, rfl, rfl, rfl, rfl, rfl, rfl, rfl, rfl, rfl, rfl, rfl, rfl, trivial⟩) kk
end LE
