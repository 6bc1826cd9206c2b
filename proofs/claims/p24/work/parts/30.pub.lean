/-! the class's public methods -/
theorem inB_ne {x a b : Int32} (h : IN x a b) : inB x a b ≠ 0 := by rw [inB_1 h]; decide
theorem IN_of {x a b : Int32} (h : inB x a b ≠ 0) : IN x a b := by
  by_cases q : IN x a b
  · exact q
  · exact absurd (inB_0 q) h
theorem RO.v {cy : Nat → ClassId} {ad : Nat → Nat} {n : Nat} {S : tS} {g0 : Nat → va_E} (h : RO ad n g0) : RO ad n (gV cy ad 4 S g0) := ⟨h.1, gV_o (by unfold gOut; omega) h.2⟩
theorem gV_W2 {cy : Nat → ClassId} {ad : Nat → Nat} {S : tS} {g0 : Nat → va_E} {a b : va_E} : va_up (va_up (gV cy ad 4 S g0) 2 a) 3 b = gV cy ad 4 S (va_up (va_up g0 2 a) 3 b) := by
  rw [gV_upo (by unfold gOut; omega), gV_upo (by unfold gOut; omega)]
theorem le10 {S : tS} (ho : ok S) {j : Nat} (hj : j < sN S) : j < 10 := Nat.lt_of_lt_of_le hj ho.1
theorem le12 {S : tS} (ho : ok S) {j : Nat} (hj : j < sP S) : j < 12 := Nat.lt_of_lt_of_le hj ho.2.1
set_option maxRecDepth 100000 in
set_option maxHeartbeats 4000000 in
theorem c_setWeather (l : Launch) {z0 n : Nat} {D : va_G} {cy : Nat → ClassId} {ad : Nat → Nat} {S : tS} {g0 : Nat → va_E} {ra le : Nat → Int32} {j : Nat} {r e1 : Int32} (hR : RO ad n g0) (hw : WX cy ad n g0 ra le) (hj : j < 28) (h1 : IN (nI j) 0 27) (h2 : IN r 0 20) (h3 : IN e1 0 3) : Ct0 l yX4_setWeather cX4_setWeather 5 (some FieldType.int) 7 120 z0 D cy n ad (gV cy ad 4 S g0) [.ref (ad 0), .int (nI j), .int r, .int e1] (some (.int (10 * ra j + le j))) (gV cy ad 4 S (va_up (va_up g0 2 (.inl (cy 0, 28, .inl (upd ra j r)))) 3 (.inl (cy 0, 28, .inl (upd le j e1))))) := by
  refine ct_of (by decide +kernel) 1 [some (.ref (ad 0)), some (.int (nI j)), some (.int r), some (.int e1), none] (Nat.le_of_ble_eq_true rfl) rfl ?_
  intro p e s m below meth c X hr hlk hnm
  refine v_iload1 X dX4_setWeather_0 rfl ?_
  refine v_ico (v := 0) X dX4_setWeather_1 (by decide) ?_
  refine v_bip (v := 27) X dX4_setWeather_2 (by decide) ?_
  refine cd_X4_28 X dX4_setWeather_4 (c_isWithin l) (Nat.le_of_ble_eq_true rfl) ⟨(Nat.le_of_ble_eq_true rfl), (Nat.le_of_ble_eq_true rfl), (Nat.le_of_ble_eq_true rfl), (Nat.le_of_ble_eq_true rfl)⟩ ?_
  refine cd_X4_32 X dX4_setWeather_7 (c_needIndex l (inB_ne h1)) (Nat.le_of_ble_eq_true rfl) ⟨(Nat.le_of_ble_eq_true rfl), (Nat.le_of_ble_eq_true rfl), (Nat.le_of_ble_eq_true rfl), (Nat.le_of_ble_eq_true rfl)⟩ ?_
  refine v_iload2 X dX4_setWeather_10 rfl ?_
  refine v_ico (v := 0) X dX4_setWeather_11 (by decide) ?_
  refine v_bip (v := 20) X dX4_setWeather_12 (by decide) ?_
  refine cd_X4_28 X dX4_setWeather_14 (c_isWithin l) (Nat.le_of_ble_eq_true rfl) ⟨(Nat.le_of_ble_eq_true rfl), (Nat.le_of_ble_eq_true rfl), (Nat.le_of_ble_eq_true rfl), (Nat.le_of_ble_eq_true rfl)⟩ ?_
  refine v_if_eq (tgt := 33) X dX4_setWeather_17 (by decide) (fun hb => ?_) (fun hb => ?_)
  · exact absurd hb (inB_ne h2)
  refine v_iload3 X dX4_setWeather_20 rfl ?_
  refine v_ico (v := 0) X dX4_setWeather_21 (by decide) ?_
  refine v_ico (v := 3) X dX4_setWeather_22 (by decide) ?_
  refine cd_X4_28 X dX4_setWeather_23 (c_isWithin l) (Nat.le_of_ble_eq_true rfl) ⟨(Nat.le_of_ble_eq_true rfl), (Nat.le_of_ble_eq_true rfl), (Nat.le_of_ble_eq_true rfl), (Nat.le_of_ble_eq_true rfl)⟩ ?_
  refine v_if_eq (tgt := 33) X dX4_setWeather_26 (by decide) (fun hb => ?_) (fun hb => ?_)
  · exact absurd hb (inB_ne h3)
  refine v_ico (v := 1) X dX4_setWeather_29 (by decide) ?_
  refine v_goto (tgt := 34) X dX4_setWeather_30 (by decide) ?_
  refine cd_X4_36 X dX4_setWeather_34 (c_needArgument l (by decide)) (Nat.le_of_ble_eq_true rfl) ⟨(Nat.le_of_ble_eq_true rfl), (Nat.le_of_ble_eq_true rfl), (Nat.le_of_ble_eq_true rfl), (Nat.le_of_ble_eq_true rfl)⟩ ?_
  refine v_aload0 X dX4_setWeather_37 rfl ?_
  refine gf_X4_10 X dX4_setWeather_38 hR.v.2 ?_
  refine v_iload1 X dX4_setWeather_41 rfl ?_
  refine cd_X4_39 X dX4_setWeather_42 (c_X3_code l (gV_W (by omega) hw) hj) (gV_W (by omega) hw).1 rfl (Nat.le_of_ble_eq_true rfl) ⟨(Nat.le_of_ble_eq_true rfl), (Nat.le_of_ble_eq_true rfl), (Nat.le_of_ble_eq_true rfl), (Nat.le_of_ble_eq_true rfl)⟩ ?_
  refine v_istore4 X rfl (Nat.le_of_ble_eq_true rfl) dX4_setWeather_45 ?_
  refine v_aload0 X dX4_setWeather_47 rfl ?_
  refine gf_X4_10 X dX4_setWeather_48 hR.v.2 ?_
  refine v_iload1 X dX4_setWeather_51 rfl ?_
  refine v_iload2 X dX4_setWeather_52 rfl ?_
  refine v_iload3 X dX4_setWeather_53 rfl ?_
  refine cd_X4_43 X dX4_setWeather_54 (c_X3_change l (gV_W (by omega) hw) hj) (gV_W (by omega) hw).1 rfl (Nat.le_of_ble_eq_true rfl) ⟨(Nat.le_of_ble_eq_true rfl), (Nat.le_of_ble_eq_true rfl), (Nat.le_of_ble_eq_true rfl), (Nat.le_of_ble_eq_true rfl)⟩ ?_
  refine vV.gg (gV_W2) ?_
  refine v_iload X dX4_setWeather_57 rfl ?_
  exact v_iret X hr hlk dX4_setWeather_59 ⟨rfl, rfl, rfl, rfl⟩
set_option maxRecDepth 100000 in
set_option maxHeartbeats 4000000 in
theorem c_build (l : Launch) {z0 n : Nat} {D : va_G} {cy : Nat → ClassId} {ad : Nat → Nat} {S : tS} {g0 : Nat → va_E} {r h p1 q : Int32} (hR : RO ad n g0) (ho : ok S) (hN : sN S < 10) (hf : vAt n g0 (4 + 3 + sN S) (cH dfH)) (h1 : IN r 1 30) (h2 : IN h 10 900) (h3 : IN p1 0 9) (h4 : IN q 0 20) : Ct0 l yX4_build cX4_build 5 (some FieldType.int) 7 120 z0 D cy n ad (gV cy ad 4 S g0) [.ref (ad 0), .int r, .int h, .int p1, .int q] (some (.int (nI (sN S)))) (gV cy ad 4 (buildT r h p1 q S) g0) := by
  refine ct_of (by decide +kernel) 0 [some (.ref (ad 0)), some (.int r), some (.int h), some (.int p1), some (.int q)] (Nat.le_of_ble_eq_true rfl) rfl ?_
  intro p e s m below meth c X hr hlk hnm
  refine v_iload1 X dX4_build_0 rfl ?_
  refine v_ico (v := 1) X dX4_build_1 (by decide) ?_
  refine v_bip (v := 30) X dX4_build_2 (by decide) ?_
  refine cd_X4_28 X dX4_build_4 (c_isWithin l) (Nat.le_of_ble_eq_true rfl) ⟨(Nat.le_of_ble_eq_true rfl), (Nat.le_of_ble_eq_true rfl), (Nat.le_of_ble_eq_true rfl), (Nat.le_of_ble_eq_true rfl)⟩ ?_
  refine v_if_eq (tgt := 26) X dX4_build_7 (by decide) (fun hb => ?_) (fun hb => ?_)
  · exact absurd hb (inB_ne h1)
  refine v_iload2 X dX4_build_10 rfl ?_
  refine v_bip (v := 10) X dX4_build_11 (by decide) ?_
  refine v_sip (v := 900) X dX4_build_13 (by decide) ?_
  refine cd_X4_28 X dX4_build_16 (c_isWithin l) (Nat.le_of_ble_eq_true rfl) ⟨(Nat.le_of_ble_eq_true rfl), (Nat.le_of_ble_eq_true rfl), (Nat.le_of_ble_eq_true rfl), (Nat.le_of_ble_eq_true rfl)⟩ ?_
  refine v_if_eq (tgt := 26) X dX4_build_19 (by decide) (fun hb => ?_) (fun hb => ?_)
  · exact absurd hb (inB_ne h2)
  refine v_ico (v := 1) X dX4_build_22 (by decide) ?_
  refine v_goto (tgt := 27) X dX4_build_23 (by decide) ?_
  refine cd_X4_36 X dX4_build_27 (c_needArgument l (by decide)) (Nat.le_of_ble_eq_true rfl) ⟨(Nat.le_of_ble_eq_true rfl), (Nat.le_of_ble_eq_true rfl), (Nat.le_of_ble_eq_true rfl), (Nat.le_of_ble_eq_true rfl)⟩ ?_
  refine v_iload3 X dX4_build_30 rfl ?_
  refine v_ico (v := 0) X dX4_build_31 (by decide) ?_
  refine v_bip (v := 9) X dX4_build_32 (by decide) ?_
  refine cd_X4_28 X dX4_build_34 (c_isWithin l) (Nat.le_of_ble_eq_true rfl) ⟨(Nat.le_of_ble_eq_true rfl), (Nat.le_of_ble_eq_true rfl), (Nat.le_of_ble_eq_true rfl), (Nat.le_of_ble_eq_true rfl)⟩ ?_
  refine v_if_eq (tgt := 55) X dX4_build_37 (by decide) (fun hb => ?_) (fun hb => ?_)
  · exact absurd hb (inB_ne h3)
  refine v_iload X dX4_build_40 rfl ?_
  refine v_ico (v := 0) X dX4_build_42 (by decide) ?_
  refine v_bip (v := 20) X dX4_build_43 (by decide) ?_
  refine cd_X4_28 X dX4_build_45 (c_isWithin l) (Nat.le_of_ble_eq_true rfl) ⟨(Nat.le_of_ble_eq_true rfl), (Nat.le_of_ble_eq_true rfl), (Nat.le_of_ble_eq_true rfl), (Nat.le_of_ble_eq_true rfl)⟩ ?_
  refine v_if_eq (tgt := 55) X dX4_build_48 (by decide) (fun hb => ?_) (fun hb => ?_)
  · exact absurd hb (inB_ne h4)
  refine v_ico (v := 1) X dX4_build_51 (by decide) ?_
  refine v_goto (tgt := 56) X dX4_build_52 (by decide) ?_
  refine cd_X4_36 X dX4_build_56 (c_needArgument l (by decide)) (Nat.le_of_ble_eq_true rfl) ⟨(Nat.le_of_ble_eq_true rfl), (Nat.le_of_ble_eq_true rfl), (Nat.le_of_ble_eq_true rfl), (Nat.le_of_ble_eq_true rfl)⟩ ?_
  refine v_aload0 X dX4_build_59 rfl ?_
  refine gf_X4_21 X dX4_build_60 hR.v.2 ?_
  refine gf_X4_47 X dX4_build_63 (gV_v hR.1) ?_
  refine v_bip (v := 10) X dX4_build_66 (by decide) ?_
  refine v_icmp_ge (tgt := 75) X dX4_build_68 (by decide) (fun hb => ?_) (fun hb => ?_)
  · exact absurd hb (nIge (N := 10) hN (by decide))
  refine v_ico (v := 1) X dX4_build_71 (by decide) ?_
  refine v_goto (tgt := 76) X dX4_build_72 (by decide) ?_
  refine cd_X4_51 X dX4_build_76 (c_needState l (by decide)) (Nat.le_of_ble_eq_true rfl) ⟨(Nat.le_of_ble_eq_true rfl), (Nat.le_of_ble_eq_true rfl), (Nat.le_of_ble_eq_true rfl), (Nat.le_of_ble_eq_true rfl)⟩ ?_
  refine v_aload0 X dX4_build_79 rfl ?_
  refine gf_X4_21 X dX4_build_80 hR.v.2 ?_
  refine v_iload1 X dX4_build_83 rfl ?_
  refine v_iload2 X dX4_build_84 rfl ?_
  refine v_iload3 X dX4_build_85 rfl ?_
  refine v_iload X dX4_build_86 rfl ?_
  refine cd_X4_54 X dX4_build_88 (c_X2_addHouse l hR.1 ho hN hf) (gV_v hR.1) rfl (Nat.le_of_ble_eq_true rfl) ⟨(Nat.le_of_ble_eq_true rfl), (Nat.le_of_ble_eq_true rfl), (Nat.le_of_ble_eq_true rfl), (Nat.le_of_ble_eq_true rfl)⟩ ?_
  exact v_iret X hr hlk dX4_build_91 ⟨rfl, rfl, rfl, rfl⟩
