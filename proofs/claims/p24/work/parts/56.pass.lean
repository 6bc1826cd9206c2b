/-! a day of the law's village -/
theorem gS_upD {cy : Nat → ClassId} {ad : Nat → Nat} {T : tS} {ra le : Nat → Int32} {g0 : Nat → va_E} {i : Nat} {w t d : Int32} (hi : i < sN T) (hw : w = sH T i 2 - drkF (sH T i)) (ht : t = sH T i 7 + (3 * sH T i 3 - drkF (sH T i))) (hd : d = if drkF (sH T i) < 3 * sH T i 3 then sH T i 9 + 1 else sH T i 9) : va_up (gS cy ad T ra le g0) (97 + i) (cL (upd (upd (upd (sH T i) 2 w) 7 t) 9 d)) = gS cy ad (setH T (va_up (sH T) i (drinkF (sH T i)))) ra le g0 := by
  subst hw ht hd
  exact gS_upH hi
theorem gS_upHH {cy : Nat → ClassId} {ad : Nat → Nat} {T : tS} {ra le : Nat → Int32} {g0 : Nat → va_E} {i : Nat} {f f' : Nat → Int32} (hi : i < sN T) : va_up (gS cy ad (setH T (va_up (sH T) i f)) ra le g0) (97 + i) (cL f') = gS cy ad (setH T (va_up (sH T) i f')) ra le g0 := by
  rw [gS_upH (S := setH T (va_up (sH T) i f)) hi]
  show gS cy ad (setH T (va_up (va_up (sH T) i f) i f')) ra le g0 = _
  rw [va_up_up]
def fkG (f : Nat → Int32) (k : Nat) : Nat → Int32 := upd (upd f 2 (f 2 - nI k)) 8 (f 8 + nI k)
theorem fkG_s (f : Nat → Int32) (k : Nat) : upd (upd f 2 (f 2 - nI k - 1)) 8 (f 8 + nI k + 1) = fkG f (k + 1) := by
  unfold fkG
  rw [show f 2 - nI k - 1 = f 2 - nI (k + 1) from by rw [← nI_1, Int32.sub_eq_add_neg, Int32.sub_eq_add_neg, Int32.sub_eq_add_neg, Int32.neg_add, Int32.sub_eq_add_neg, Int32.add_assoc], Int32.add_assoc, nI_1]
set_option maxRecDepth 100000 in
set_option maxHeartbeats 4000000 in
theorem c_X6_pass (l : Launch) {z0 n : Nat} {D : va_G} {cy : Nat → ClassId} {ad : Nat → Nat} {d : Nat} {S : tS} {ra le : Nat → Int32} {g0 : Nat → va_E} (hn : 97 + sN S + sP S ≤ n) (ho : ok S) (hwk : wok ra le) (hd : sM S 0 = nI d) (hd2 : d < 2 ^ 31) : CtG l yX6_pass cX6_pass 12 (some FieldType.int) (rmv 12 300) z0 D cy n ad (gS cy ad S ra le g0) [.ref (ad 54)] (anyI n ad (gS cy ad (dayS ra le S) ra le g0)) 0 0 := by
  refine ct_of (by decide +kernel) 11 [some (.ref (ad 54)), none, none, none, none, none, none, none, none, none, none, none] (Nat.le_of_ble_eq_true rfl) rfl ?_
  intro p e s m below meth c X hr hlk hnm
  have hdn : dayN S = d % 28 := by unfold dayN; rw [hd, nI_clamp hd2]
  have hj28 : dayN S < 28 := dayN_lt S
  obtain ⟨hr1, hr2⟩ := hwk.1 _ hj28
  have o1 := day1_ok (ra := ra) (le := le) hwk ho
  have o2 := day2_ok (ra := ra) (le := le) hwk ho
  have o3 := day3_ok (ra := ra) (le := le) hwk ho
  have o4 := day4_ok (ra := ra) (le := le) hwk ho
  have hmn : ∀ {T : tS}, same S T → 97 + sN T + sP T ≤ n := fun h => by rw [h.1, h.2.1]; exact hn
  generalize hQ : MQ below (QcR z0 D (anyI n ad (gS cy ad (dayS ra le S) ra le g0))) ([.ref (ad 54)] : List Value).toArray s 0 0 (fun q => z0 ≤ q) = Q
  -- the end
  have h5 : ∀ sum : Int32, vV p l e (rmv 12 300) s m ([.ref (ad 54)] : List Value).toArray below meth c 12 z0 D 0 0 Q n ad (gS cy ad (day5 ra le S) ra le g0) 585 [some (.ref (ad 54)), none, some (.int sum), none, none, none, none, none, none, none, none, none] [] := by
    intro sum
    have hnT : 97 + sN (day5 ra le S) + sP (day5 ra le S) ≤ n := hmn (T := day5 ra le S) (day5_ok hwk ho).2
    refine v_aload0 X dX6_pass_585 rfl ?_
    refine v_dup X dX6_pass_586 rfl ?_
    refine gf_X6_37 X dX6_pass_587 (gS_s hnT) ?_
    refine v_ico (v := 1) X dX6_pass_590 (by decide) ?_
    refine v_iadd X dX6_pass_591 ?_
    refine pf_X6_37 X dX6_pass_592 (gS_s hnT) ?_
    refine vV.gg (gS_upS (T := dayS ra le S) rfl rfl rfl rfl rfl) ?_
    refine v_iload2 X dX6_pass_595 rfl ?_
    rw [← hQ]
    exact v_iret X hr hlk dX6_pass_596 ⟨⟨_, rfl⟩, rfl, rfl, rfl⟩
  -- gutters
  have h4 : ∀ sum : Int32, vV p l e (rmv 12 300) s m ([.ref (ad 54)] : List Value).toArray below meth c 12 z0 D 0 0 Q n ad (gS cy ad (day4 ra S) ra le g0) 535 [some (.ref (ad 54)), some (.ref (ad (56 + dayN S))), some (.int sum), none, none, none, none, none, none, none, none, none] [] := by
    intro sum
    have hnT : 97 + sN (day4 ra S) + sP (day4 ra S) ≤ n := hmn o4.2
    refine v_aload0 X dX6_pass_535 rfl ?_
    refine gf_X6_16 X dX6_pass_536 (gS_s hnT) ?_
    refine v_astore3 X rfl (Nat.le_of_ble_eq_true rfl) dX6_pass_539 ?_
    refine v_aload3 X dX6_pass_540 rfl ?_
    refine v_alenL X dX6_pass_541 (gS_h hnT) ?_
    refine v_istore4 X rfl (Nat.le_of_ble_eq_true rfl) dX6_pass_542 ?_
    refine v_ico (v := 0) X dX6_pass_544 (by decide) ?_
    refine v_istore5 X rfl (Nat.le_of_ble_eq_true rfl) dX6_pass_545 ?_
    rw [o4.2.1]
    refine loop_inv (clogS (le (dayN S))) (fun _ T => ok T ∧ same S T) (fun i T => vV p l e (rmv 12 300) s m ([.ref (ad 54)] : List Value).toArray below meth c 12 z0 D 0 0 Q n ad (gS cy ad T ra le g0) 547 [some (.ref (ad 54)), some (.ref (ad (56 + dayN S))), some (.int sum), some (.ref (ad 95)), some (.int (nI (sN S))), some (.int (nI i)), none, none, none, none, none, none] []) (sN S) ?_ ?_ (sN S) 0 (day4 ra S) (Nat.zero_add _) o4 ?_
    · intro i T hi hT
      obtain ⟨a, b⟩ := clogS_ok (i := i) hT.1 (hwk.2 _ hj28)
      exact ⟨a, hT.2.tr b⟩
    · intro i T hi hT hk
      obtain ⟨hT, hs⟩ := hT
      have hi2 : i < sN T := by rw [hs.1]; exact hi
      have hnT := hmn hs
      refine v_iload X dX6_pass_547 rfl ?_
      refine v_iload X dX6_pass_549 rfl ?_
      refine v_icmp_ge (tgt := 585) X dX6_pass_551 (by decide) (fun hc => ?_) (fun hc => ?_)
      · exact absurd hc (nIge hi (N31 ho))
      · refine v_aload3 X dX6_pass_554 rfl ?_
        refine v_iload X dX6_pass_555 rfl ?_
        refine v_aaldL X dX6_pass_557 (gS_h hnT) rfl hi2 (N31 hT) ?_
        refine v_astore6 X rfl (Nat.le_of_ble_eq_true rfl) dX6_pass_558 ?_
        refine v_aload X dX6_pass_560 rfl ?_
        refine v_bip (v := 10) X dX6_pass_562 (by decide) ?_
        refine v_aload X dX6_pass_564 rfl ?_
        refine gf_X6_80 X dX6_pass_566 (gS_hh hnT hi2) ?_
        refine v_aload1 X dX6_pass_569 rfl ?_
        refine v_ico (v := 1) X dX6_pass_570 (by decide) ?_
        refine v_iald X dX6_pass_571 (gS_wr hnT hj28) rfl (by decide) (by decide) ?_
        refine v_iadd X dX6_pass_572 ?_
        refine v_mmin X dX6_pass_573 wm_X6_98 wt_J9_min_7cf53 wz_J9 wc_J9_min_7cf53 ⟨(by first | exact Nat.le_of_ble_eq_true rfl | (show k + 1 + 1 ≤ 12; omega) | (show 8 + (5 + 11) + (40 + 24 * k) ≤ 300; omega)), (by first | exact Nat.le_of_ble_eq_true rfl | (show k + 1 + 1 ≤ 12; omega) | (show 8 + (5 + 11) + (40 + 24 * k) ≤ 300; omega)), (Nat.le_of_ble_eq_true rfl), (Nat.le_of_ble_eq_true rfl)⟩ ?_
        refine pf_X6_80 X dX6_pass_576 (gS_hh hnT hi2) ?_
        refine vV.gg ((show va_up _ (97 + i) (cL (clogF (sH T i) (le (dayN S)))) = _ from gS_upH (S := T) hi2)) ?_
        refine v_iinc5 (v := nI (i + 1)) X rfl (Nat.le_of_ble_eq_true rfl) dX6_pass_579 (nI_inc i) ?_
        refine v_goto (tgt := 547) X dX6_pass_582 (by decide) ?_
        exact vV.le (by exact ⟨rfl, rfl, rfl, rfl, rfl, rfl, trivial⟩) hk
    · intro hT
      refine v_iload X dX6_pass_547 rfl ?_
      refine v_iload X dX6_pass_549 rfl ?_
      refine v_icmp_ge (tgt := 585) X dX6_pass_551 (by decide) (fun hc => ?_) (fun hc => ?_)
      · exact vV.le (by exact ⟨rfl, rfl, trivial⟩) (h5 sum)
      · exact absurd (Int32.le_refl _) hc
  -- pipes
  have h3 : ∀ sum : Int32, vV p l e (rmv 12 300) s m ([.ref (ad 54)] : List Value).toArray below meth c 12 z0 D 0 0 Q n ad (gS cy ad (day3 ra S) ra le g0) 300 [some (.ref (ad 54)), some (.ref (ad (56 + dayN S))), some (.int sum), none, none, none, none, none, none, none, none, none] [] := by
    intro sum
    have hnT : 97 + sN (day3 ra S) + sP (day3 ra S) ≤ n := hmn o3.2
    refine v_aload0 X dX6_pass_300 rfl ?_
    refine gf_X6_22 X dX6_pass_301 (gS_s hnT) ?_
    refine v_astore3 X rfl (Nat.le_of_ble_eq_true rfl) dX6_pass_304 ?_
    refine v_aload3 X dX6_pass_305 rfl ?_
    refine v_alenA X dX6_pass_306 (gS_p hnT) ?_
    refine v_istore4 X rfl (Nat.le_of_ble_eq_true rfl) dX6_pass_307 ?_
    refine v_ico (v := 0) X dX6_pass_309 (by decide) ?_
    refine v_istore5 X rfl (Nat.le_of_ble_eq_true rfl) dX6_pass_310 ?_
    rw [o3.2.2.1]
    refine loop_inv evenS (fun _ T => ok T ∧ same S T) (fun i T => vV p l e (rmv 12 300) s m ([.ref (ad 54)] : List Value).toArray below meth c 12 z0 D 0 0 Q n ad (gS cy ad T ra le g0) 312 [some (.ref (ad 54)), some (.ref (ad (56 + dayN S))), some (.int sum), some (.ref (ad 96)), some (.int (nI (sP S))), some (.int (nI i)), none, none, none, none, none, none] []) (sP S) ?_ ?_ (sP S) 0 (day3 ra S) (Nat.zero_add _) o3 ?_
    · intro i T hi hT
      obtain ⟨a, b⟩ := evenS_ok hT.1 (p := i) (by rw [hT.2.2.1]; exact hi)
      exact ⟨a, hT.2.tr b⟩
    · intro i T hi hT hk
      obtain ⟨hT, hs⟩ := hT
      have hi2 : i < sP T := by rw [hs.2.1]; exact hi
      have hnT := hmn hs
      refine v_iload X dX6_pass_312 rfl ?_
      refine v_iload X dX6_pass_314 rfl ?_
      refine v_icmp_ge (tgt := 535) X dX6_pass_316 (by decide) (fun hc => ?_) (fun hc => ?_)
      · exact absurd hc (nIge hi (P31 ho))
      refine v_aload3 X dX6_pass_319 rfl ?_
      refine v_iload X dX6_pass_320 rfl ?_
      refine v_aaldR X dX6_pass_322 (gS_p hnT) rfl hi2 (P31 hT) ?_
      refine v_astore6 X rfl (Nat.le_of_ble_eq_true rfl) dX6_pass_323 ?_
      refine v_aload X dX6_pass_325 rfl ?_
      refine v_ico (v := 3) X dX6_pass_327 (by decide) ?_
      refine v_iald X dX6_pass_328 (gS_pp hnT hi2) rfl (by decide) (by decide) ?_
      refine v_if_ne (tgt := 335) X dX6_pass_329 (by decide) (fun h3 => ?_) (fun h3 => ?_)
      · have hev : evenS i T = evenT i T := by
          unfold evenS
          exact if_neg h3
        rw [hev] at hk
        refine v_X6_even X hT hi2 hnT ?_
        refine v_iinc5 (v := nI (i + 1)) X rfl (Nat.le_of_ble_eq_true rfl) dX6_pass_529 (nI_inc i) ?_
        refine v_goto (tgt := 312) X dX6_pass_532 (by decide) ?_
        exact vV.le (by exact ⟨rfl, rfl, rfl, rfl, rfl, rfl, trivial⟩) hk
      · refine v_goto (tgt := 529) X dX6_pass_332 (by decide) ?_
        refine v_iinc5 (v := nI (i + 1)) X rfl (Nat.le_of_ble_eq_true rfl) dX6_pass_529 (nI_inc i) ?_
        refine v_goto (tgt := 312) X dX6_pass_532 (by decide) ?_
        have e0 : evenS i T = T := by
          unfold evenS
          exact if_pos h3
        rw [e0] at hk
        exact vV.le (by exact ⟨rfl, rfl, rfl, rfl, rfl, rfl, trivial⟩) hk
    · intro hT
      refine v_iload X dX6_pass_312 rfl ?_
      refine v_iload X dX6_pass_314 rfl ?_
      refine v_icmp_ge (tgt := 535) X dX6_pass_316 (by decide) (fun hc => ?_) (fun hc => ?_)
      · exact vV.le (by exact ⟨rfl, rfl, rfl, trivial⟩) (h4 sum)
      · exact absurd (Int32.le_refl _) hc
  -- gardens
  have h2 : ∀ sum : Int32, vV p l e (rmv 12 300) s m ([.ref (ad 54)] : List Value).toArray below meth c 12 z0 D 0 0 Q n ad (gS cy ad (day2 ra S) ra le g0) 208 [some (.ref (ad 54)), some (.ref (ad (56 + dayN S))), some (.int sum), none, none, none, none, none, none, none, none, none] [] := by
    intro sum
    have hnT : 97 + sN (day2 ra S) + sP (day2 ra S) ≤ n := hmn o2.2
    refine v_aload0 X dX6_pass_208 rfl ?_
    refine gf_X6_16 X dX6_pass_209 (gS_s hnT) ?_
    refine v_astore3 X rfl (Nat.le_of_ble_eq_true rfl) dX6_pass_212 ?_
    refine v_aload3 X dX6_pass_213 rfl ?_
    refine v_alenL X dX6_pass_214 (gS_h hnT) ?_
    refine v_istore4 X rfl (Nat.le_of_ble_eq_true rfl) dX6_pass_215 ?_
    refine v_ico (v := 0) X dX6_pass_217 (by decide) ?_
    refine v_istore5 X rfl (Nat.le_of_ble_eq_true rfl) dX6_pass_218 ?_
    rw [o2.2.1]
    refine loop_inv gardS (fun _ T => ok T ∧ same S T) (fun i T => vV p l e (rmv 12 300) s m ([.ref (ad 54)] : List Value).toArray below meth c 12 z0 D 0 0 Q n ad (gS cy ad T ra le g0) 220 [some (.ref (ad 54)), some (.ref (ad (56 + dayN S))), some (.int sum), some (.ref (ad 95)), some (.int (nI (sN S))), some (.int (nI i)), none, none, none, none, none, none] []) (sN S) ?_ ?_ (sN S) 0 (day2 ra S) (Nat.zero_add _) o2 ?_
    · intro i T hi hT
      obtain ⟨a, b⟩ := gardS_ok (i := i) hT.1
      exact ⟨a, hT.2.tr b⟩
    · intro i T hi hT hk
      obtain ⟨hT, hs⟩ := hT
      have hi2 : i < sN T := by rw [hs.1]; exact hi
      have hnT := hmn hs
      obtain ⟨G, hG, eG, cG⟩ := gard_n (hT.2.2.1 i hi2)
      have hup : ∀ k : Nat, va_up (gS cy ad (setH T (va_up (sH T) i (fkG (sH T i) k))) ra le g0) (97 + i) (cL (upd (upd (sH T i) 2 (sH T i 2 - nI k - 1)) 8 (sH T i 8 + nI k + 1))) = gS cy ad (setH T (va_up (sH T) i (fkG (sH T i) (k + 1)))) ra le g0 := fun k => by
        rw [fkG_s]
        exact gS_upHH hi2
      have hhT : ∀ k : Nat, vAt n (gS cy ad (setH T (va_up (sH T) i (fkG (sH T i) k))) ra le g0) (97 + i) (cL (fkG (sH T i) k)) := fun k => by
        have q := gS_hh (cy := cy) (ad := ad) (S := setH T (va_up (sH T) i (fkG (sH T i) k))) (ra := ra) (le := le) (g0 := g0) hnT hi2
        rwa [show sH (setH T (va_up (sH T) i (fkG (sH T i) k))) i = fkG (sH T i) k from va_up_self _ _ _] at q
      have inner : ∀ q k : Nat, q + k = G → vV p l e (rmv 12 300) s m ([.ref (ad 54)] : List Value).toArray below meth c 12 z0 D 0 0 Q n ad (gS cy ad (setH T (va_up (sH T) i (fkG (sH T i) k))) ra le g0) 236 [some (.ref (ad 54)), some (.ref (ad (56 + dayN S))), some (.int sum), some (.ref (ad 95)), some (.int (nI (sN S))), some (.int (nI i)), some (.ref (ad (97 + i))), some (.int (nI k)), none, none, none, none] [] := by
        intro q
        induction q with
        | zero =>
          intro k hkG
          have e : k = G := by omega
          subst e
          have hhk := hhT k
          have hout : vV p l e (rmv 12 300) s m ([.ref (ad 54)] : List Value).toArray below meth c 12 z0 D 0 0 Q n ad (gS cy ad (setH T (va_up (sH T) i (fkG (sH T i) k))) ra le g0) 294 [some (.ref (ad 54)), some (.ref (ad (56 + dayN S))), some (.int sum), some (.ref (ad 95)), some (.int (nI (sN S))), some (.int (nI i)), some (.ref (ad (97 + i))), some (.int (nI k)), none, none, none, none] [] := by
            refine v_iinc5 (v := nI (i + 1)) X rfl (Nat.le_of_ble_eq_true rfl) dX6_pass_294 (nI_inc i) ?_
            refine v_goto (tgt := 220) X dX6_pass_297 (by decide) ?_
            have e1 : gardS i T = setH T (va_up (sH T) i (fkG (sH T i) k)) := by
              unfold gardS
              rw [eG]
              rfl
            rw [e1] at hk
            exact vV.le (by exact ⟨rfl, rfl, rfl, rfl, rfl, rfl, trivial⟩) hk
          refine v_iload X dX6_pass_236 rfl ?_
          refine v_aload X dX6_pass_238 rfl ?_
          refine gf_X6_54 X dX6_pass_240 hhk ?_
          refine v_icmp_ge (tgt := 294) X dX6_pass_243 (by decide) (fun c1 => ?_) (fun c1 => ?_)
          · exact hout
          refine v_ico (v := 2) X dX6_pass_246 (by decide) ?_
          refine v_aload X dX6_pass_247 rfl ?_
          refine gf_X6_68 X dX6_pass_249 hhk ?_
          refine v_ico (v := 1) X dX6_pass_252 (by decide) ?_
          refine v_isub X dX6_pass_253 ?_
          refine v_imul X dX6_pass_254 ?_
          refine v_aload X dX6_pass_255 rfl ?_
          refine gf_X6_48 X dX6_pass_257 hhk ?_
          refine v_icmp_ge (tgt := 266) X dX6_pass_260 (by decide) (fun c2 => ?_) (fun c2 => ?_)
          · exact absurd ((cG k (by omega)).mpr ⟨c1, c2⟩) (Nat.lt_irrefl _)
          · refine v_goto (tgt := 294) X dX6_pass_263 (by decide) ?_
            exact hout
        | succ q ih =>
          intro k hkG
          have hhk := hhT k
          obtain ⟨d1, d2⟩ := (cG k (by omega)).mp (by omega)
          refine v_iload X dX6_pass_236 rfl ?_
          refine v_aload X dX6_pass_238 rfl ?_
          refine gf_X6_54 X dX6_pass_240 hhk ?_
          refine v_icmp_ge (tgt := 294) X dX6_pass_243 (by decide) (fun c1 => ?_) (fun c1 => ?_)
          · exact absurd c1 d1
          refine v_ico (v := 2) X dX6_pass_246 (by decide) ?_
          refine v_aload X dX6_pass_247 rfl ?_
          refine gf_X6_68 X dX6_pass_249 hhk ?_
          refine v_ico (v := 1) X dX6_pass_252 (by decide) ?_
          refine v_isub X dX6_pass_253 ?_
          refine v_imul X dX6_pass_254 ?_
          refine v_aload X dX6_pass_255 rfl ?_
          refine gf_X6_48 X dX6_pass_257 hhk ?_
          refine v_icmp_ge (tgt := 266) X dX6_pass_260 (by decide) (fun c2 => ?_) (fun c2 => ?_)
          · refine v_aload X dX6_pass_266 rfl ?_
            refine v_dup X dX6_pass_268 rfl ?_
            refine gf_X6_68 X dX6_pass_269 hhk ?_
            refine v_ico (v := 1) X dX6_pass_272 (by decide) ?_
            refine v_isub X dX6_pass_273 ?_
            refine pf_X6_68 X dX6_pass_274 hhk ?_
            refine v_aload X dX6_pass_277 rfl ?_
            refine v_dup X dX6_pass_279 rfl ?_
            refine gf_X6_95 X dX6_pass_280 (vAt.up hhk) ?_
            refine v_ico (v := 1) X dX6_pass_283 (by decide) ?_
            refine v_iadd X dX6_pass_284 ?_
            refine pf_X6_95 X dX6_pass_285 (vAt.up hhk) ?_
            refine vV.gg ((va_up_up _ _ _ _).trans (hup k)) ?_
            refine v_iinc7 (v := nI (k + 1)) X rfl (Nat.le_of_ble_eq_true rfl) dX6_pass_288 (nI_inc k) ?_
            refine v_goto (tgt := 236) X dX6_pass_291 (by decide) ?_
            exact ih (k + 1) (by omega)
          · exact absurd d2 c2
      refine v_iload X dX6_pass_220 rfl ?_
      refine v_iload X dX6_pass_222 rfl ?_
      refine v_icmp_ge (tgt := 300) X dX6_pass_224 (by decide) (fun hc => ?_) (fun hc => ?_)
      · exact absurd hc (nIge hi (N31 ho))
      · refine v_aload3 X dX6_pass_227 rfl ?_
        refine v_iload X dX6_pass_228 rfl ?_
        refine v_aaldL X dX6_pass_230 (gS_h hnT) rfl hi2 (N31 hT) ?_
        refine v_astore6 X rfl (Nat.le_of_ble_eq_true rfl) dX6_pass_231 ?_
        refine v_ico (v := 0) X dX6_pass_233 (by decide) ?_
        refine v_istore7 X rfl (Nat.le_of_ble_eq_true rfl) dX6_pass_234 ?_
        have i0 := inner G 0 (by omega)
        rw [show fkG (sH T i) 0 = sH T i from by
          unfold fkG
          rw [show nI 0 = 0 from rfl, Int32.sub_zero, Int32.add_zero, upd_eta, upd_eta], show va_up (sH T) i (sH T i) = sH T from va_up_eta _ _ _ rfl] at i0
        exact i0
    · intro hT
      refine v_iload X dX6_pass_220 rfl ?_
      refine v_iload X dX6_pass_222 rfl ?_
      refine v_icmp_ge (tgt := 300) X dX6_pass_224 (by decide) (fun hc => ?_) (fun hc => ?_)
      · exact vV.le (by exact ⟨rfl, rfl, rfl, trivial⟩) (h3 sum)
      · exact absurd (Int32.le_refl _) hc
  -- people
  have h1 : vV p l e (rmv 12 300) s m ([.ref (ad 54)] : List Value).toArray below meth c 12 z0 D 0 0 Q n ad (gS cy ad (day1 ra S) ra le g0) 82 [some (.ref (ad 54)), some (.ref (ad (56 + dayN S))), some (.int 0), none, none, none, none, none, none, none, none, none] [] := by
    have hnT : 97 + sN (day1 ra S) + sP (day1 ra S) ≤ n := hmn o1.2
    refine v_aload0 X dX6_pass_82 rfl ?_
    refine gf_X6_16 X dX6_pass_83 (gS_s hnT) ?_
    refine v_astore3 X rfl (Nat.le_of_ble_eq_true rfl) dX6_pass_86 ?_
    refine v_aload3 X dX6_pass_87 rfl ?_
    refine v_alenL X dX6_pass_88 (gS_h hnT) ?_
    refine v_istore4 X rfl (Nat.le_of_ble_eq_true rfl) dX6_pass_89 ?_
    refine v_ico (v := 0) X dX6_pass_91 (by decide) ?_
    refine v_istore5 X rfl (Nat.le_of_ble_eq_true rfl) dX6_pass_92 ?_
    rw [o1.2.1]
    refine loop_inv drinkS (fun _ T => ok T ∧ same S T) (fun i T => ∀ sum : Int32, vV p l e (rmv 12 300) s m ([.ref (ad 54)] : List Value).toArray below meth c 12 z0 D 0 0 Q n ad (gS cy ad T ra le g0) 94 [some (.ref (ad 54)), some (.ref (ad (56 + dayN S))), some (.int sum), some (.ref (ad 95)), some (.int (nI (sN S))), some (.int (nI i)), none, none, none, none, none, none] []) (sN S) ?_ ?_ (sN S) 0 (day1 ra S) (Nat.zero_add _) o1 ?_ 0
    · intro i T hi hT
      obtain ⟨a, b⟩ := drinkS_ok (i := i) hT.1
      exact ⟨a, hT.2.tr b⟩
    · intro i T hi hT hk sum
      obtain ⟨hT, hs⟩ := hT
      have hi2 : i < sN T := by rw [hs.1]; exact hi
      have hnT := hmn hs
      obtain ⟨m1, m2, m3⟩ := ms_ok (hT.2.2.1 i hi2)
      have hh0 := gS_hh (cy := cy) (ad := ad) (S := T) (ra := ra) (le := le) (g0 := g0) hnT hi2
      have hh2 : vAt n (gS cy ad (setH T (va_up (sH T) i (drinkF (sH T i)))) ra le g0) (97 + i) (cL (drinkF (sH T i))) := by
        have q := gS_hh (cy := cy) (ad := ad) (S := setH T (va_up (sH T) i (drinkF (sH T i)))) (ra := ra) (le := le) (g0 := g0) hnT hi2
        rwa [show sH (setH T (va_up (sH T) i (drinkF (sH T i)))) i = drinkF (sH T i) from va_up_self _ _ _] at q
      have hD : ∀ d : Int32, (sH T i 9 + d = if drkF (sH T i) < 3 * sH T i 3 then sH T i 9 + 1 else sH T i 9) → vV p l e (rmv 12 300) s m ([.ref (ad 54)] : List Value).toArray below meth c 12 z0 D 0 0 Q n ad (va_up (gS cy ad T ra le g0) (97 + i) (cL (upd (upd (sH T i) 2 (sH T i 2 - (3 * sH T i 3 - msF (sH T i)))) 7 (sH T i 7 + msF (sH T i))))) 174 [some (.ref (ad 54)), some (.ref (ad (56 + dayN S))), some (.int sum), some (.ref (ad 95)), some (.int (nI (sN S))), some (.int (nI i)), some (.ref (ad (97 + i))), some (.int (msF (sH T i))), none, none, none, none] [.int d, .int (sH T i 9), .ref (ad (97 + i))] := by
        intro d hd9
        refine v_iadd X dX6_pass_174 ?_
        refine pf_X6_89 X dX6_pass_175 (vAt.up hh0) ?_
        refine vV.gg ((va_up_up _ _ _ _).trans (gS_upD hi2 (by rw [m2]) (by rw [m1]) hd9)) ?_
        refine v_aload0 X dX6_pass_178 rfl ?_
        refine v_dup X dX6_pass_179 rfl ?_
        refine gf_X6_92 X dX6_pass_180 (gS_s (S := setH T (va_up (sH T) i (drinkF (sH T i)))) hnT) ?_
        refine v_ico (v := 3) X dX6_pass_183 (by decide) ?_
        refine v_aload X dX6_pass_184 rfl ?_
        refine gf_X6_51 X dX6_pass_186 hh2 ?_
        refine v_imul X dX6_pass_189 ?_
        refine v_iload X dX6_pass_190 rfl ?_
        refine v_isub X dX6_pass_192 ?_
        refine vV.top (congrArg Value.int m2) ?_
        refine v_iadd X dX6_pass_193 ?_
        refine pf_X6_92 X dX6_pass_194 (gS_s (S := setH T (va_up (sH T) i (drinkF (sH T i)))) hnT) ?_
        refine vV.gg (gS_upS (T := drinkS i T) rfl rfl rfl rfl rfl) ?_
        refine v_iload2 X dX6_pass_197 rfl ?_
        refine v_iload X dX6_pass_198 rfl ?_
        refine v_iadd X dX6_pass_200 ?_
        refine v_istore2 X rfl (Nat.le_of_ble_eq_true rfl) dX6_pass_201 ?_
        refine v_iinc5 (v := nI (i + 1)) X rfl (Nat.le_of_ble_eq_true rfl) dX6_pass_202 (nI_inc i) ?_
        refine v_goto (tgt := 94) X dX6_pass_205 (by decide) ?_
        exact vV.le (by exact ⟨rfl, rfl, rfl, rfl, rfl, rfl, trivial⟩) (hk _)
      refine v_iload X dX6_pass_94 rfl ?_
      refine v_iload X dX6_pass_96 rfl ?_
      refine v_icmp_ge (tgt := 208) X dX6_pass_98 (by decide) (fun hc => ?_) (fun hc => ?_)
      · exact absurd hc (nIge hi (N31 ho))
      refine v_aload3 X dX6_pass_101 rfl ?_
      refine v_iload X dX6_pass_102 rfl ?_
      refine v_aaldL X dX6_pass_104 (gS_h hnT) rfl hi2 (N31 hT) ?_
      refine v_astore6 X rfl (Nat.le_of_ble_eq_true rfl) dX6_pass_105 ?_
      refine v_ico (v := 0) X dX6_pass_107 (by decide) ?_
      refine v_ico (v := 3) X dX6_pass_108 (by decide) ?_
      refine v_aload X dX6_pass_109 rfl ?_
      refine gf_X6_51 X dX6_pass_111 (gS_hh hnT hi2) ?_
      refine v_imul X dX6_pass_114 ?_
      refine v_aload X dX6_pass_115 rfl ?_
      refine gf_X6_68 X dX6_pass_117 (gS_hh hnT hi2) ?_
      refine v_isub X dX6_pass_120 ?_
      refine v_mmax X dX6_pass_121 wm_X6_71 wt_J9_max_7cf53 wz_J9 wc_J9_max_7cf53 ⟨(by first | exact Nat.le_of_ble_eq_true rfl | (show k + 1 + 1 ≤ 12; omega) | (show 8 + (5 + 11) + (40 + 24 * k) ≤ 300; omega)), (by first | exact Nat.le_of_ble_eq_true rfl | (show k + 1 + 1 ≤ 12; omega) | (show 8 + (5 + 11) + (40 + 24 * k) ≤ 300; omega)), (Nat.le_of_ble_eq_true rfl), (Nat.le_of_ble_eq_true rfl)⟩ ?_
      refine vV.top (w := .int (msF (sH T i))) rfl ?_
      refine v_istore7 X rfl (Nat.le_of_ble_eq_true rfl) dX6_pass_124 ?_
      refine v_aload X dX6_pass_126 rfl ?_
      refine v_dup X dX6_pass_128 rfl ?_
      refine gf_X6_68 X dX6_pass_129 (gS_hh hnT hi2) ?_
      refine v_ico (v := 3) X dX6_pass_132 (by decide) ?_
      refine v_aload X dX6_pass_133 rfl ?_
      refine gf_X6_51 X dX6_pass_135 (gS_hh hnT hi2) ?_
      refine v_imul X dX6_pass_138 ?_
      refine v_iload X dX6_pass_139 rfl ?_
      refine v_isub X dX6_pass_141 ?_
      refine v_isub X dX6_pass_142 ?_
      refine pf_X6_68 X dX6_pass_143 (gS_hh hnT hi2) ?_
      refine v_aload X dX6_pass_146 rfl ?_
      refine v_dup X dX6_pass_148 rfl ?_
      refine gf_X6_86 X dX6_pass_149 (vAt.up hh0) ?_
      refine v_iload X dX6_pass_152 rfl ?_
      refine v_iadd X dX6_pass_154 ?_
      refine pf_X6_86 X dX6_pass_155 (vAt.up hh0) ?_
      refine vV.gg (va_up_up _ _ _ _) ?_
      refine v_aload X dX6_pass_158 rfl ?_
      refine v_dup X dX6_pass_160 rfl ?_
      refine gf_X6_89 X dX6_pass_161 (vAt.up hh0) ?_
      refine v_iload X dX6_pass_164 rfl ?_
      refine v_if_le (tgt := 173) X dX6_pass_166 (by decide) (fun c9 => ?_) (fun c9 => ?_)
      · refine v_ico (v := 0) X dX6_pass_173 (by decide) ?_
        exact hD 0 (by rw [Int32.add_zero, if_neg (fun q => Int32.lt_irrefl (Int32.lt_of_lt_of_le (m3.mpr q) c9))])
      · refine v_ico (v := 1) X dX6_pass_169 (by decide) ?_
        refine v_goto (tgt := 174) X dX6_pass_170 (by decide) ?_
        exact hD 1 (by rw [if_pos (m3.mp (Int32.not_le.mp c9))])
    · intro hT sum
      refine v_iload X dX6_pass_94 rfl ?_
      refine v_iload X dX6_pass_96 rfl ?_
      refine v_icmp_ge (tgt := 208) X dX6_pass_98 (by decide) (fun hc => ?_) (fun hc => ?_)
      · exact vV.le (by exact ⟨rfl, rfl, rfl, trivial⟩) (h2 sum)
      · exact absurd (Int32.le_refl _) hc
  have hnT := hn
  refine v_aload0 X dX6_pass_0 rfl ?_
  refine gf_X6_9 X dX6_pass_1 (gS_s hn) ?_
  refine v_aload0 X dX6_pass_4 rfl ?_
  refine gf_X6_37 X dX6_pass_5 (gS_s hn) ?_
  refine vV.top (congrArg Value.int hd) ?_
  refine v_bip (v := 28) X dX6_pass_8 (by decide) ?_
  refine v_irem X dX6_pass_10 (by decide) ?_
  rw [rem28 hd2, ← hdn]
  refine v_aaldR X dX6_pass_11 (gS_w hn) rfl hj28 (by decide) ?_
  refine v_astore1 X rfl (Nat.le_of_ble_eq_true rfl) dX6_pass_12 ?_
  refine v_ico (v := 0) X dX6_pass_13 (by decide) ?_
  refine v_istore2 X rfl (Nat.le_of_ble_eq_true rfl) dX6_pass_14 ?_
  refine v_ico (v := 0) X dX6_pass_15 (by decide) ?_
  refine v_istore3 X rfl (Nat.le_of_ble_eq_true rfl) dX6_pass_16 ?_
  refine loop_inv (rainS (ra (dayN S))) (fun _ T => ok T ∧ same S T) (fun i T => vV p l e (rmv 12 300) s m ([.ref (ad 54)] : List Value).toArray below meth c 12 z0 D 0 0 Q n ad (gS cy ad T ra le g0) 17 [some (.ref (ad 54)), some (.ref (ad (56 + dayN S))), some (.int 0), some (.int (nI i)), none, none, none, none, none, none, none, none] []) (sN S) ?_ ?_ (sN S) 0 S (Nat.zero_add _) ⟨ho, same.rf⟩ ?_
  · intro i T hi hT
    obtain ⟨a, b⟩ := rainS_ok hT.1 (by rw [hT.2.1]; exact hi) ⟨hr1, hr2⟩
    exact ⟨a, hT.2.tr b⟩
  · intro i T hi hT hk
    obtain ⟨hT, hs⟩ := hT
    have hi2 : i < sN T := by rw [hs.1]; exact hi
    have hnT := hmn hs
    obtain ⟨ra1, ra2⟩ := rainA_ok hT hi2 ⟨hr1, hr2⟩
    obtain ⟨k, ht⟩ := hT.2.2.2.2 i hi2
    have hk9 : k ≤ 9 := by
      have hN := hT.1
      have q : Ter (sN T) (sH T) (k + 1) (nI i) := ⟨i, hi2, rfl, ht⟩
      have := q.le hN
      omega
    refine v_iload3 X dX6_pass_17 rfl ?_
    refine v_aload0 X dX6_pass_18 rfl ?_
    refine gf_X6_16 X dX6_pass_19 (gS_s hnT) ?_
    refine v_alenL X dX6_pass_22 (gS_h hnT) ?_
    refine v_icmp_ge (tgt := 82) X dX6_pass_23 (by decide) (fun hc => ?_) (fun hc => ?_)
    · exact absurd hc (nIge hi2 (N31 hT))
    · refine v_aload0 X dX6_pass_26 rfl ?_
      refine gf_X6_16 X dX6_pass_27 (gS_s hnT) ?_
      refine v_iload3 X dX6_pass_30 rfl ?_
      refine v_aaldL X dX6_pass_31 (gS_h hnT) rfl hi2 (N31 hT) ?_
      refine gf_X6_45 X dX6_pass_32 (gS_hh hnT hi2) ?_
      refine v_aload1 X dX6_pass_35 rfl ?_
      refine v_ico (v := 0) X dX6_pass_36 (by decide) ?_
      refine v_iald X dX6_pass_37 (gS_wr hnT hj28) rfl (by decide) (by decide) ?_
      refine v_imul X dX6_pass_38 ?_
      refine v_bip (v := 10) X dX6_pass_39 (by decide) ?_
      refine v_aload0 X dX6_pass_41 rfl ?_
      refine gf_X6_16 X dX6_pass_42 (gS_s hnT) ?_
      refine v_iload3 X dX6_pass_45 rfl ?_
      refine v_aaldL X dX6_pass_46 (gS_h hnT) rfl hi2 (N31 hT) ?_
      refine gf_X6_80 X dX6_pass_47 (gS_hh hnT hi2) ?_
      refine v_isub X dX6_pass_50 ?_
      refine v_imul X dX6_pass_51 ?_
      refine v_bip (v := 10) X dX6_pass_52 (by decide) ?_
      refine v_idiv X dX6_pass_54 (by decide) ?_
      refine vV.top (w := .int (rainA (ra (dayN S)) i T)) rfl ?_
      refine v_istore4 X rfl (Nat.le_of_ble_eq_true rfl) dX6_pass_55 ?_
      refine v_aload0 X dX6_pass_57 rfl ?_
      refine v_dup X dX6_pass_58 rfl ?_
      refine gf_X6_83 X dX6_pass_59 (gS_s hnT) ?_
      refine v_iload X dX6_pass_62 rfl ?_
      refine v_iadd X dX6_pass_64 ?_
      refine pf_X6_83 X dX6_pass_65 (gS_s hnT) ?_
      refine vV.gg (gS_upS (T := setM T (upd (sM T) 1 (sM T 1 + rainA (ra (dayN S)) i T))) rfl rfl rfl rfl rfl) ?_
      refine v_aload0 X dX6_pass_68 rfl ?_
      refine v_iload3 X dX6_pass_69 rfl ?_
      refine v_iload X dX6_pass_70 rfl ?_
      refine cd_X6_77 X dX6_pass_72 (c_X6_pour l k i (S := setM T (upd (sM T) 1 (sM T 1 + rainA (ra (dayN S)) i T))) hnT (ok_M hT) hi2 ra1 (by omega) ht) (gS_s hnT) rfl (Nat.le_of_ble_eq_true rfl) ⟨(by first | exact Nat.le_of_ble_eq_true rfl | (show k + 1 + 1 ≤ 12; omega) | (show 8 + (5 + 11) + (40 + 24 * k) ≤ 300; omega)), (by first | exact Nat.le_of_ble_eq_true rfl | (show k + 1 + 1 ≤ 12; omega) | (show 8 + (5 + 11) + (40 + 24 * k) ≤ 300; omega)), (Nat.le_of_ble_eq_true rfl), (Nat.le_of_ble_eq_true rfl)⟩ ?_
      refine v_pop X dX6_pass_75 rfl ?_
      refine v_iinc3 (v := nI (i + 1)) X rfl (Nat.le_of_ble_eq_true rfl) dX6_pass_76 (nI_inc i) ?_
      refine v_goto (tgt := 17) X dX6_pass_79 (by decide) ?_
      exact vV.le (by exact ⟨rfl, rfl, rfl, rfl, trivial⟩) hk
  · intro hT
    have hnT := hmn hT.2
    refine v_iload3 X dX6_pass_17 rfl ?_
    refine v_aload0 X dX6_pass_18 rfl ?_
    refine gf_X6_16 X dX6_pass_19 (gS_s hnT) ?_
    refine v_alenL X dX6_pass_22 (gS_h hnT) ?_
    refine v_icmp_ge (tgt := 82) X dX6_pass_23 (by decide) (fun hc => ?_) (fun hc => ?_)
    · exact vV.le (by exact ⟨rfl, rfl, rfl, trivial⟩) h1
    · exact absurd (by rw [hT.2.1]; exact Int32.le_refl _) hc
