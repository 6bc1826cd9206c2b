/-! a pipe of the law's village -/
theorem gS_upQ4 {cy : Nat → ClassId} {ad : Nat → Nat} {S : tS} {ra le : Nat → Int32} {g0 : Nat → va_E} {i : Nat} {z : Int32} (hi : i < sP S) : va_up (gS cy ad S ra le g0) (97 + sN S + i) (iA cy 5 (upd (c5 (sQ S i)) 4 z)) = gS cy ad (setQ S (va_up (sQ S) i (upd (sQ S i) 4 z))) ra le g0 := by
  rw [c5_up (by decide)]
  exact gS_upQ hi
def e1T (T : tS) (p : Nat) (x : Int32) : tS := setH T (va_up (sH T) (evA T p) (upd (sH T (evA T p)) 2 x))
def e2T (T : tS) (p : Nat) (x y : Int32) : tS := setH (e1T T p x) (va_up (sH (e1T T p x)) (evB T p) (upd (sH T (evB T p)) 2 y))
def e3T (T : tS) (p : Nat) (x y z : Int32) : tS := setQ (e2T T p x y) (va_up (sQ (e2T T p x y)) p (upd (sQ T p) 4 z))
section EV
variable {cy : Nat → ClassId} {ad : Nat → Nat} {n p : Nat} {T : tS} {ra le : Nat → Int32} {g0 : Nat → va_E} {x y z : Int32}
theorem e1_n (hn : 97 + sN T + sP T ≤ n) : 97 + sN (e1T T p x) + sP (e1T T p x) ≤ n := hn
theorem e2_n (hn : 97 + sN T + sP T ≤ n) : 97 + sN (e2T T p x y) + sP (e2T T p x y) ≤ n := hn
theorem e3_n (hn : 97 + sN T + sP T ≤ n) : 97 + sN (e3T T p x y z) + sP (e3T T p x y z) ≤ n := hn
theorem e1_up (hA : evA T p < sN T) : va_up (gS cy ad T ra le g0) (97 + evA T p) (cL (upd (sH T (evA T p)) 2 x)) = gS cy ad (e1T T p x) ra le g0 := gS_upH hA
theorem e1_B (hn : 97 + sN T + sP T ≤ n) (hB : evB T p < sN T) (h : evA T p ≠ evB T p) : vAt n (gS cy ad (e1T T p x) ra le g0) (97 + evB T p) (cL (sH T (evB T p))) := by
  have q := gS_hh (cy := cy) (ad := ad) (S := e1T T p x) (ra := ra) (le := le) (g0 := g0) (e1_n hn) (i := evB T p) hB
  have e : sH (e1T T p x) (evB T p) = sH T (evB T p) := va_up_ne _ _ (Ne.symm h)
  rwa [e] at q
theorem e2_up (hB : evB T p < sN T) : va_up (gS cy ad (e1T T p x) ra le g0) (97 + evB T p) (cL (upd (sH T (evB T p)) 2 y)) = gS cy ad (e2T T p x y) ra le g0 := gS_upH (S := e1T T p x) hB
theorem e2_P (hn : 97 + sN T + sP T ≤ n) (hp : p < sP T) : vAt n (gS cy ad (e2T T p x y) ra le g0) (97 + sN T + p) (iA cy 5 (c5 (sQ T p))) := gS_pp (S := e2T T p x y) (e2_n hn) hp
theorem e3_up (hp : p < sP T) : va_up (gS cy ad (e2T T p x y) ra le g0) (97 + sN T + p) (iA cy 5 (upd (c5 (sQ T p)) 4 z)) = gS cy ad (e3T T p x y z) ra le g0 := gS_upQ4 (S := e2T T p x y) hp
theorem e3_P (hn : 97 + sN T + sP T ≤ n) (hp : p < sP T) : vAt n (gS cy ad (e3T T p x y z) ra le g0) (97 + sN T + p) (iA cy 5 (c5 (upd (sQ T p) 4 z))) := by
  have q := gS_pp (cy := cy) (ad := ad) (S := e3T T p x y z) (ra := ra) (le := le) (g0 := g0) (e3_n hn) (i := p) hp
  have e : sQ (e3T T p x y z) p = upd (sQ T p) 4 z := va_up_self _ _ _
  rw [e] at q
  exact q
theorem e3_s (hn : 97 + sN T + sP T ≤ n) : vAt n (gS cy ad (e3T T p x y z) ra le g0) 54 (cS ad T) := gS_s (S := e3T T p x y z) (e3_n hn)
theorem e3_f (hn : 97 + sN T + sP T ≤ n) : vAt n (gS cy ad (e3T T p x y z) ra le g0) 84 (aA cy 10 (rf ad 85 10)) := gS_f (S := e3T T p x y z) (e3_n hn)
theorem e3_r (hn : 97 + sN T + sP T ≤ n) {a : Nat} (ha : a < 10) : vAt n (gS cy ad (e3T T p x y z) ra le g0) (85 + a) (iA cy 10 (fr (sF T) a)) := gS_fr (S := e3T T p x y z) (e3_n hn) ha
theorem e4_up {a b : Nat} {G : Int32} (ha : a < 10) (hb : b < 10) : va_up (gS cy ad (e3T T p x y z) ra le g0) (85 + a) (iA cy 10 (upd (fr (sF T) a) b (fr (sF T) a b + G))) = gS cy ad (evL T p x y z (10 * a + b) (sF T (10 * a + b) + G)) ra le g0 := by
  have q := gS_upF (cy := cy) (ad := ad) (S := e3T T p x y z) (ra := ra) (le := le) (g0 := g0) (a := a) (b := b) (x := fr (sF T) a b + G) ha hb
  refine q.trans ?_
  rw [fr_at hb]
  rfl
end EV
set_option maxRecDepth 100000 in
set_option maxHeartbeats 4000000 in
theorem v_X6_even {l : Launch} {p : Program} {e : Env} {s : State} {m : MethodId} {args : Array Value} {below : List Frame} {meth : Method} {c : Code} {Q : State → Prop} {z0 n w N i : Nat} {D : va_G} {cy : Nat → ClassId} {ad : Nat → Nat} {T : tS} {ra le : Nat → Int32} {g0 : Nat → va_E} {sum : Int32} (X : vCx p s m args c cX6_pass RX6 12 z0 D cy) (hT : ok T) (hi2 : i < sP T) (hnT : 97 + sN T + sP T ≤ n)
    (hk : vV p l e (rmv 12 300) s m args below meth c 12 z0 D 0 0 Q n ad (gS cy ad (evenT i T) ra le g0) 529 [some (.ref (ad 54)), some (.ref (ad w)), some (.int sum), some (.ref (ad 96)), some (.int (nI N)), some (.int (nI i)), some (.ref (ad (97 + sN T + i))), none, none, none, none, none] []) : vV p l e (rmv 12 300) s m args below meth c 12 z0 D 0 0 Q n ad (gS cy ad T ra le g0) 335 [some (.ref (ad 54)), some (.ref (ad w)), some (.int sum), some (.ref (ad 96)), some (.int (nI N)), some (.int (nI i)), some (.ref (ad (97 + sN T + i))), none, none, none, none, none] [] := by
  obtain ⟨hA, hB, hAB, e3, e4, l1, l2, hb3⟩ := okQ_ends hT hi2
  have hA10 := Nat.lt_of_lt_of_le hA hT.1
  have hB10 := Nat.lt_of_lt_of_le hB hT.1
  have hrA := hT.2.2.1 _ hA
  have hrB := hT.2.2.1 _ hB
  obtain ⟨-, -, -, hK0⟩ := goF_ok (q := sQ T i) hrA hrB ⟨l1, l2⟩
  obtain ⟨q1, q2, q3, q4⟩ := goL_ok (q := sQ T i) hrA hrB ⟨l1, l2⟩
  have eM : sH T (evA T i) 2 * sH T (evB T i) 1 - sH T (evB T i) 2 * sH T (evA T i) 1 = evM T i := rfl
  have eFl : flwF (sQ T i) (sH T (evA T i)) (sH T (evB T i)) = evF T i := rfl
  rw [eM, eFl] at q1 q2 q3 q4
  by_cases hM : evM T i < 0
  · have hG0 : jmin (sQ T i 2) ((-evM T i) / (sH T (evA T i) 1 + sH T (evB T i) 1)) = goL (sQ T i) (sH T (evA T i)) (sH T (evB T i)) (evM T i) := by unfold goL; rw [if_pos hM]
    have q2 := q2 hM
    generalize goL (sQ T i) (sH T (evA T i)) (sH T (evB T i)) (evM T i) = G at q1 q2 hG0
    have hend : gS cy ad (evL T i (sH T (evA T i) 2 + G) (sH T (evB T i) 2 + -G) (sQ T i 4 + G) (10 * evA T i + evB T i) (sF T (10 * evA T i + evB T i) + G)) ra le g0 = gS cy ad (evenT i T) ra le g0 :=
      evL_eq (T := T) (p := i) (F := evF T i) rfl (by rw [q2, ← Int32.sub_eq_add_neg]) (by rw [q2, Int32.neg_neg]) q1 (Or.inl (by unfold evI; rw [if_neg (fun q => Int32.lt_irrefl (Int32.lt_trans q hM))]))
    refine v_aload0 X dX6_pass_335 rfl ?_
    refine gf_X6_16 X dX6_pass_336 (gS_s hnT) ?_
    refine v_aload X dX6_pass_339 rfl ?_
    refine v_ico (v := 0) X dX6_pass_341 (by decide) ?_
    refine v_iald X dX6_pass_342 (gS_pp hnT hi2) rfl (by decide) (by decide) ?_
    refine v_aaldL X dX6_pass_343 (gS_h hnT) e3 hA (N31 hT) ?_
    refine v_astore7 X rfl (Nat.le_of_ble_eq_true rfl) dX6_pass_344 ?_
    refine v_aload0 X dX6_pass_346 rfl ?_
    refine gf_X6_16 X dX6_pass_347 (gS_s hnT) ?_
    refine v_aload X dX6_pass_350 rfl ?_
    refine v_ico (v := 1) X dX6_pass_352 (by decide) ?_
    refine v_iald X dX6_pass_353 (gS_pp hnT hi2) rfl (by decide) (by decide) ?_
    refine v_aaldL X dX6_pass_354 (gS_h hnT) e4 hB (N31 hT) ?_
    refine v_astore8 X rfl (Nat.le_of_ble_eq_true rfl) dX6_pass_355 ?_
    refine v_aload X dX6_pass_357 rfl ?_
    refine gf_X6_68 X dX6_pass_359 (gS_hh hnT hA) ?_
    refine v_aload X dX6_pass_362 rfl ?_
    refine gf_X6_48 X dX6_pass_364 (gS_hh hnT hB) ?_
    refine v_imul X dX6_pass_367 ?_
    refine v_aload X dX6_pass_368 rfl ?_
    refine gf_X6_68 X dX6_pass_370 (gS_hh hnT hB) ?_
    refine v_aload X dX6_pass_373 rfl ?_
    refine gf_X6_48 X dX6_pass_375 (gS_hh hnT hA) ?_
    refine v_imul X dX6_pass_378 ?_
    refine v_isub X dX6_pass_379 ?_
    refine vV.top (congrArg Value.int eM) ?_
    refine v_istore9 X rfl (Nat.le_of_ble_eq_true rfl) dX6_pass_380 ?_
    refine v_iload X dX6_pass_382 rfl ?_
    refine v_if_ge (tgt := 391) X dX6_pass_384 (by decide) (fun q => absurd q (Int32.not_le.mpr hM)) (fun _ => ?_)
    refine v_ico (v := 1) X dX6_pass_387 (by decide) ?_
    refine v_goto (tgt := 392) X dX6_pass_388 (by decide) ?_
    refine v_istore10 X rfl (Nat.le_of_ble_eq_true rfl) dX6_pass_392 ?_
    refine v_aload X dX6_pass_394 rfl ?_
    refine v_ico (v := 2) X dX6_pass_396 (by decide) ?_
    refine v_iald X dX6_pass_397 (gS_pp hnT hi2) rfl (by decide) (by decide) ?_
    refine v_iload X dX6_pass_398 rfl ?_
    refine v_if_eq (tgt := 409) X dX6_pass_400 (by decide) (fun c1 => ?_) (fun c1 => ?_)
    · exact absurd c1 (by decide)
    refine v_iload X dX6_pass_403 rfl ?_
    refine v_ineg X dX6_pass_405 ?_
    refine v_goto (tgt := 411) X dX6_pass_406 (by decide) ?_
    refine v_aload X dX6_pass_411 rfl ?_
    refine gf_X6_48 X dX6_pass_413 (gS_hh hnT hA) ?_
    refine v_aload X dX6_pass_416 rfl ?_
    refine gf_X6_48 X dX6_pass_418 (gS_hh hnT hB) ?_
    refine v_iadd X dX6_pass_421 ?_
    refine v_idiv X dX6_pass_422 hK0 ?_
    refine v_mmin X dX6_pass_423 wm_X6_98 wt_J9_min_7cf53 wz_J9 wc_J9_min_7cf53 ⟨(Nat.le_of_ble_eq_true rfl), (Nat.le_of_ble_eq_true rfl), (Nat.le_of_ble_eq_true rfl), (Nat.le_of_ble_eq_true rfl)⟩ ?_
    refine vV.top (congrArg Value.int hG0) ?_
    refine v_istore11 X rfl (Nat.le_of_ble_eq_true rfl) dX6_pass_426 ?_
    refine v_aload X dX6_pass_428 rfl ?_
    refine v_dup X dX6_pass_430 rfl ?_
    refine gf_X6_68 X dX6_pass_431 (gS_hh hnT hA) ?_
    refine v_iload X dX6_pass_434 rfl ?_
    refine v_if_eq (tgt := 444) X dX6_pass_436 (by decide) (fun c2 => ?_) (fun c2 => ?_)
    · exact absurd c2 (by decide)
    refine v_iload X dX6_pass_439 rfl ?_
    refine v_goto (tgt := 447) X dX6_pass_441 (by decide) ?_
    refine v_iadd X dX6_pass_447 ?_
    refine pf_X6_68 X dX6_pass_448 (gS_hh hnT hA) ?_
    refine vV.gg (e1_up hA) ?_
    refine v_aload X dX6_pass_451 rfl ?_
    refine v_dup X dX6_pass_453 rfl ?_
    refine gf_X6_68 X dX6_pass_454 (e1_B hnT hB hAB) ?_
    refine v_iload X dX6_pass_457 rfl ?_
    refine v_if_eq (tgt := 468) X dX6_pass_459 (by decide) (fun c3 => ?_) (fun c3 => ?_)
    · exact absurd c3 (by decide)
    refine v_iload X dX6_pass_462 rfl ?_
    refine v_ineg X dX6_pass_464 ?_
    refine v_goto (tgt := 470) X dX6_pass_465 (by decide) ?_
    refine v_iadd X dX6_pass_470 ?_
    refine pf_X6_68 X dX6_pass_471 (e1_B hnT hB hAB) ?_
    refine vV.gg (e2_up hB) ?_
    refine v_aload X dX6_pass_474 rfl ?_
    refine v_ico (v := 4) X dX6_pass_476 (by decide) ?_
    refine v_dup2 X dX6_pass_477 rfl rfl ?_
    refine v_iald X dX6_pass_478 (e2_P hnT hi2) rfl (by decide) (by decide) ?_
    refine v_iload X dX6_pass_479 rfl ?_
    refine v_iadd X dX6_pass_481 ?_
    refine v_iast X dX6_pass_482 (e2_P hnT hi2) rfl (by decide) (by decide) ?_
    refine vV.gg (e3_up hi2) ?_
    refine v_iload X dX6_pass_483 rfl ?_
    refine v_if_eq (tgt := 510) X dX6_pass_485 (by decide) (fun c4 => ?_) (fun c4 => ?_)
    · exact absurd c4 (by decide)
    refine v_aload0 X dX6_pass_488 rfl ?_
    refine gf_X6_25 X dX6_pass_489 (e3_s hnT) ?_
    refine v_aload X dX6_pass_492 rfl ?_
    refine v_ico (v := 0) X dX6_pass_494 (by decide) ?_
    refine v_iald X dX6_pass_495 (e3_P hnT hi2) rfl (by decide) (by decide) ?_
    refine v_aaldR X dX6_pass_496 (e3_f hnT) e3 hA10 (by decide) ?_
    refine v_aload X dX6_pass_497 rfl ?_
    refine v_ico (v := 1) X dX6_pass_499 (by decide) ?_
    refine v_iald X dX6_pass_500 (e3_P hnT hi2) rfl (by decide) (by decide) ?_
    refine v_dup2 X dX6_pass_501 rfl rfl ?_
    refine v_iald X dX6_pass_502 (e3_r hnT hA10) e4 hB10 (by decide) ?_
    refine v_iload X dX6_pass_503 rfl ?_
    refine v_iadd X dX6_pass_505 ?_
    refine v_iast X dX6_pass_506 (e3_r hnT hA10) e4 hB10 (by decide) ?_
    refine vV.gg ((e4_up hA10 hB10).trans hend) ?_
    refine v_goto (tgt := 529) X dX6_pass_507 (by decide) ?_
    exact vV.le (by exact ⟨rfl, rfl, rfl, rfl, rfl, rfl, rfl, trivial⟩) hk
  · have hG0 : jmin (sQ T i 2) (evM T i / (sH T (evA T i) 1 + sH T (evB T i) 1)) = goL (sQ T i) (sH T (evA T i)) (sH T (evB T i)) (evM T i) := by unfold goL; rw [if_neg hM]
    have q3 := q3 hM
    generalize goL (sQ T i) (sH T (evA T i)) (sH T (evB T i)) (evM T i) = G at q1 q3 hG0
    have hend : gS cy ad (evL T i (sH T (evA T i) 2 + -G) (sH T (evB T i) 2 + G) (sQ T i 4 + G) (10 * evB T i + evA T i) (sF T (10 * evB T i + evA T i) + G)) ra le g0 = gS cy ad (evenT i T) ra le g0 :=
      evL_eq (T := T) (p := i) (F := evF T i) rfl (by rw [q3, ← Int32.sub_eq_add_neg]) (by rw [q3]) q1 (by
        by_cases c0 : 0 < evM T i
        · exact Or.inl (by unfold evI; rw [if_pos c0])
        · exact Or.inr (q3.trans (q4 (Int32.le_antisymm (Int32.not_lt.mp c0) (Int32.not_lt.mp hM)))))
    refine v_aload0 X dX6_pass_335 rfl ?_
    refine gf_X6_16 X dX6_pass_336 (gS_s hnT) ?_
    refine v_aload X dX6_pass_339 rfl ?_
    refine v_ico (v := 0) X dX6_pass_341 (by decide) ?_
    refine v_iald X dX6_pass_342 (gS_pp hnT hi2) rfl (by decide) (by decide) ?_
    refine v_aaldL X dX6_pass_343 (gS_h hnT) e3 hA (N31 hT) ?_
    refine v_astore7 X rfl (Nat.le_of_ble_eq_true rfl) dX6_pass_344 ?_
    refine v_aload0 X dX6_pass_346 rfl ?_
    refine gf_X6_16 X dX6_pass_347 (gS_s hnT) ?_
    refine v_aload X dX6_pass_350 rfl ?_
    refine v_ico (v := 1) X dX6_pass_352 (by decide) ?_
    refine v_iald X dX6_pass_353 (gS_pp hnT hi2) rfl (by decide) (by decide) ?_
    refine v_aaldL X dX6_pass_354 (gS_h hnT) e4 hB (N31 hT) ?_
    refine v_astore8 X rfl (Nat.le_of_ble_eq_true rfl) dX6_pass_355 ?_
    refine v_aload X dX6_pass_357 rfl ?_
    refine gf_X6_68 X dX6_pass_359 (gS_hh hnT hA) ?_
    refine v_aload X dX6_pass_362 rfl ?_
    refine gf_X6_48 X dX6_pass_364 (gS_hh hnT hB) ?_
    refine v_imul X dX6_pass_367 ?_
    refine v_aload X dX6_pass_368 rfl ?_
    refine gf_X6_68 X dX6_pass_370 (gS_hh hnT hB) ?_
    refine v_aload X dX6_pass_373 rfl ?_
    refine gf_X6_48 X dX6_pass_375 (gS_hh hnT hA) ?_
    refine v_imul X dX6_pass_378 ?_
    refine v_isub X dX6_pass_379 ?_
    refine vV.top (congrArg Value.int eM) ?_
    refine v_istore9 X rfl (Nat.le_of_ble_eq_true rfl) dX6_pass_380 ?_
    refine v_iload X dX6_pass_382 rfl ?_
    refine v_if_ge (tgt := 391) X dX6_pass_384 (by decide) (fun _ => ?_) (fun q => absurd (Int32.not_lt.mp hM) q)
    refine v_ico (v := 0) X dX6_pass_391 (by decide) ?_
    refine v_istore10 X rfl (Nat.le_of_ble_eq_true rfl) dX6_pass_392 ?_
    refine v_aload X dX6_pass_394 rfl ?_
    refine v_ico (v := 2) X dX6_pass_396 (by decide) ?_
    refine v_iald X dX6_pass_397 (gS_pp hnT hi2) rfl (by decide) (by decide) ?_
    refine v_iload X dX6_pass_398 rfl ?_
    refine v_if_eq (tgt := 409) X dX6_pass_400 (by decide) (fun c1 => ?_) (fun c1 => ?_)
    · refine v_iload X dX6_pass_409 rfl ?_
      refine v_aload X dX6_pass_411 rfl ?_
      refine gf_X6_48 X dX6_pass_413 (gS_hh hnT hA) ?_
      refine v_aload X dX6_pass_416 rfl ?_
      refine gf_X6_48 X dX6_pass_418 (gS_hh hnT hB) ?_
      refine v_iadd X dX6_pass_421 ?_
      refine v_idiv X dX6_pass_422 hK0 ?_
      refine v_mmin X dX6_pass_423 wm_X6_98 wt_J9_min_7cf53 wz_J9 wc_J9_min_7cf53 ⟨(Nat.le_of_ble_eq_true rfl), (Nat.le_of_ble_eq_true rfl), (Nat.le_of_ble_eq_true rfl), (Nat.le_of_ble_eq_true rfl)⟩ ?_
      refine vV.top (congrArg Value.int hG0) ?_
      refine v_istore11 X rfl (Nat.le_of_ble_eq_true rfl) dX6_pass_426 ?_
      refine v_aload X dX6_pass_428 rfl ?_
      refine v_dup X dX6_pass_430 rfl ?_
      refine gf_X6_68 X dX6_pass_431 (gS_hh hnT hA) ?_
      refine v_iload X dX6_pass_434 rfl ?_
      refine v_if_eq (tgt := 444) X dX6_pass_436 (by decide) (fun c2 => ?_) (fun c2 => ?_)
      · refine v_iload X dX6_pass_444 rfl ?_
        refine v_ineg X dX6_pass_446 ?_
        refine v_iadd X dX6_pass_447 ?_
        refine pf_X6_68 X dX6_pass_448 (gS_hh hnT hA) ?_
        refine vV.gg (e1_up hA) ?_
        refine v_aload X dX6_pass_451 rfl ?_
        refine v_dup X dX6_pass_453 rfl ?_
        refine gf_X6_68 X dX6_pass_454 (e1_B hnT hB hAB) ?_
        refine v_iload X dX6_pass_457 rfl ?_
        refine v_if_eq (tgt := 468) X dX6_pass_459 (by decide) (fun c3 => ?_) (fun c3 => ?_)
        · refine v_iload X dX6_pass_468 rfl ?_
          refine v_iadd X dX6_pass_470 ?_
          refine pf_X6_68 X dX6_pass_471 (e1_B hnT hB hAB) ?_
          refine vV.gg (e2_up hB) ?_
          refine v_aload X dX6_pass_474 rfl ?_
          refine v_ico (v := 4) X dX6_pass_476 (by decide) ?_
          refine v_dup2 X dX6_pass_477 rfl rfl ?_
          refine v_iald X dX6_pass_478 (e2_P hnT hi2) rfl (by decide) (by decide) ?_
          refine v_iload X dX6_pass_479 rfl ?_
          refine v_iadd X dX6_pass_481 ?_
          refine v_iast X dX6_pass_482 (e2_P hnT hi2) rfl (by decide) (by decide) ?_
          refine vV.gg (e3_up hi2) ?_
          refine v_iload X dX6_pass_483 rfl ?_
          refine v_if_eq (tgt := 510) X dX6_pass_485 (by decide) (fun c4 => ?_) (fun c4 => ?_)
          · refine v_aload0 X dX6_pass_510 rfl ?_
            refine gf_X6_25 X dX6_pass_511 (e3_s hnT) ?_
            refine v_aload X dX6_pass_514 rfl ?_
            refine v_ico (v := 1) X dX6_pass_516 (by decide) ?_
            refine v_iald X dX6_pass_517 (e3_P hnT hi2) rfl (by decide) (by decide) ?_
            refine v_aaldR X dX6_pass_518 (e3_f hnT) e4 hB10 (by decide) ?_
            refine v_aload X dX6_pass_519 rfl ?_
            refine v_ico (v := 0) X dX6_pass_521 (by decide) ?_
            refine v_iald X dX6_pass_522 (e3_P hnT hi2) rfl (by decide) (by decide) ?_
            refine v_dup2 X dX6_pass_523 rfl rfl ?_
            refine v_iald X dX6_pass_524 (e3_r hnT hB10) e3 hA10 (by decide) ?_
            refine v_iload X dX6_pass_525 rfl ?_
            refine v_iadd X dX6_pass_527 ?_
            refine v_iast X dX6_pass_528 (e3_r hnT hB10) e3 hA10 (by decide) ?_
            refine vV.gg ((e4_up hB10 hA10).trans hend) ?_
            exact vV.le (by exact ⟨rfl, rfl, rfl, rfl, rfl, rfl, rfl, trivial⟩) hk
          · exact absurd rfl c4
        · exact absurd rfl c3
      · exact absurd rfl c2
    · exact absurd rfl c1
