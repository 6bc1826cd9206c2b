/-! the model's needs, dirty, advise -/
set_option maxRecDepth 100000 in
set_option maxHeartbeats 4000000 in
theorem m_needs (l : Launch) {z0 n : Nat} {D : va_G} {cy : Nat → ClassId} {ad : Nat → Nat} {d h k : Nat} {th : Int32} {ra le : Nat → Int32} {S : tS} {g : Nat → va_E} (hn : 61 ≤ n) (ho : ok S) (hh : h < sN S) (hwk : wok ra le) (hd : sM S 0 = nI d) (hd2 : d + k < 2 ^ 30) (h1 : IN (nI k) 1 60) (hk60 : k ≤ 60) : CtG l yX5_needs cX5_needs 7 (some FieldType.int) { frames := 4, cells := 95, slots := 629, locals := 115 } z0 D cy n ad (gM cy ad th ra le S g) [.ref (ad 54), .int (nI h), .int (nI k)] (isR (some (.int (needR ra le k h S 90 1))) n ad (gM cy ad 0 ra le S g)) 95 629 := by
  refine ct_of (by decide +kernel) 4 [some (.ref (ad 54)), some (.int (nI h)), some (.int (nI k)), none, none, none, none] (Nat.le_of_ble_eq_true rfl) rfl ?_
  intro p e s m below meth c X hr hlk hnm
  generalize ([.ref (ad 54), .int (nI h), .int (nI k)] : List Value).toArray = A at X ⊢
  have hN := ho.1
  generalize hR : needR ra le k h S 90 1 = R
  generalize hQ : MQ below (QcR z0 D (isR (some (.int R)) n ad (gM cy ad 0 ra le S g))) A s 95 629 (fun q => z0 ≤ q) = Q
  refine v_aload0 X dX5_needs_0 rfl ?_
  refine v_ico (v := 0) X dX5_needs_1 (by decide) ?_
  refine pf_X5_28 X dX5_needs_2 (gM_t hn) ?_
  refine vV.gg (gM_upT) ?_
  refine v_aload0 X dX5_needs_5 rfl ?_
  refine v_iload1 X dX5_needs_6 rfl ?_
  refine cd_X5_52 X dX5_needs_7 (m_isHouse l hn hN) (gM_t hn) rfl (Nat.le_of_ble_eq_true rfl) ⟨(Nat.le_of_ble_eq_true rfl), (Nat.le_of_ble_eq_true rfl), (by first | (show _ ≤ 95; omega) | (show _ ≤ 629; omega)), (by first | (show _ ≤ 95; omega) | (show _ ≤ 629; omega))⟩ ?_
  rw [hasB_1 hh (by omega)]
  refine v_if_ne (tgt := 19) X dX5_needs_10 (by decide) (fun hb => ?_) (fun hb => ?_)
  rotate_left
  · exact absurd hb (by decide)
  refine v_iload2 X dX5_needs_19 rfl ?_
  refine v_ico (v := 1) X dX5_needs_20 (by decide) ?_
  refine v_bip (v := 60) X dX5_needs_21 (by decide) ?_
  refine cd_X5_35 X dX5_needs_23 (m_isIn l) (Nat.le_of_ble_eq_true rfl) ⟨(Nat.le_of_ble_eq_true rfl), (Nat.le_of_ble_eq_true rfl), (by first | (show _ ≤ 95; omega) | (show _ ≤ 629; omega)), (by first | (show _ ≤ 95; omega) | (show _ ≤ 629; omega))⟩ ?_
  refine v_if_ne (tgt := 35) X dX5_needs_26 (by decide) (fun hb => ?_) (fun hb => ?_)
  rotate_left
  · exact absurd hb (inB_ne h1)
  refine v_aload0 X dX5_needs_35 rfl ?_
  refine cl_X5_106 X dX5_needs_36 (m_kept l hn) (gM_t hn) rfl (Nat.le_of_ble_eq_true rfl) ⟨rfl, rfl, Nat.le_of_ble_eq_true rfl, Nat.le_of_ble_eq_true rfl, Nat.le_of_ble_eq_true rfl, Nat.le_of_ble_eq_true rfl⟩ ?_
  rintro r1 n1 ad1 g1 ⟨rfl, rfl, a1, rfl⟩
  have hn1 : 61 ≤ n + 5 := by omega
  rw [← a1 54 (by omega)]
  have hZ : ∀ (i : Nat) (cs sl : Nat), cs ≤ 95 → sl ≤ 629 → vV p l e { frames := 4, cells := 95, slots := 629, locals := 115 } s m A below meth c 7 z0 D cs sl Q (n + 5) ad1 (gM cy ad1 0 ra le S (kB cy ad1 n 4 S g)) 128 [some (.ref (ad1 54)), some (.int (nI h)), some (.int (nI k)), some (.ref (ad1 n)), some (.int (sH S h 7)), some (.int R), some (.int (nI (10 * i)))] [] := by
    intro i cs sl hcs hsl
    refine vV.wd hcs hsl ?_
    refine v_iload X dX5_needs_128 rfl ?_
    refine vV.cut (n' := n) (ad' := ad) (g' := gM cy ad 0 ra le S g) (by omega) (fun j hj => (a1 j hj).symm) (fin_cut hn a1) ?_
    rw [← hQ]
    exact v_iret X hr hlk dX5_needs_130 ⟨rfl, rfl, rfl, rfl⟩
  have hL : ∀ q i, q + i = 91 → 1 ≤ i → needR ra le k h S q i = R → vV p l e { frames := 4, cells := 95, slots := 629, locals := 115 } s m A below meth c 7 z0 D (4 + i) (265 + 4 * i) Q (n + 5) ad1 (gM cy ad1 0 ra le S (kB cy ad1 n 4 S g)) 56 [some (.ref (ad1 54)), some (.int (nI h)), some (.int (nI k)), some (.ref (ad1 n)), some (.int (sH S h 7)), some (.int (-1)), some (.int (nI (10 * i)))] [] := by
    intro q
    induction q with
    | zero =>
      intro i hi hi1 he
      have : i = 91 := by omega
      subst this
      have he' : -1 = R := he
      subst he'
      refine v_iload X dX5_needs_56 rfl ?_
      refine v_sip (v := 900) X dX5_needs_58 (by decide) ?_
      refine v_icmp_gt (tgt := 128) X dX5_needs_61 (by decide) (fun hc => ?_) (fun hc => ?_)
      · exact hZ 91 _ _ (by omega) (by omega)
      exact absurd (show (900 : Int32) < nI 910 by decide) hc
    | succ q ih =>
      intro i hi hi1 he
      have hso := sizeT_ok (i := i) ho hh hi1 (by omega)
      obtain ⟨o1, o2, o3, o4⟩ := daysS_ok (ra := ra) (le := le) hwk hso (d := d) hd k
      have hkp : kpS S (daysS ra le k (sizeT h (nI (10 * i)) S)) := kp_days (ra := ra) (le := le) hwk hso k
      obtain ⟨t, t1, t2, t3⟩ := days_one (ra := ra) (le := le) hwk (j := h) k 1 hso hh (by omega)
      have e7 : sH (sizeT h (nI (10 * i)) S) h 7 = sH S h 7 := by
        show va_up (sH S) h (sizeF (sH S h) (nI (10 * i))) h 7 = _
        rw [va_up_self]
        unfold sizeF
        rw [upd_n _ _ (by decide), upd_n _ _ (by decide)]
      rw [needR_s] at he
      refine v_iload X dX5_needs_56 rfl ?_
      refine v_sip (v := 900) X dX5_needs_58 (by decide) ?_
      refine v_icmp_gt (tgt := 128) X dX5_needs_61 (by decide) (fun hc => ?_) (fun hc => ?_)
      · exact absurd (show nI 900 < nI (10 * i) from hc) (nI_nlt (by omega) (by decide))
      refine v_iload X dX5_needs_64 rfl ?_
      refine v_ico (v := -1) X dX5_needs_66 (by decide) ?_
      refine v_icmp_ne (tgt := 128) X dX5_needs_67 (by decide) (fun hc2 => ?_) (fun hc2 => ?_)
      · exact absurd rfl hc2
      refine vV.gg (show _ = gM cy ad1 0 ra le (hU S h (sH S h)) (kB cy ad1 n 4 S g) by rw [hU_self]) ?_
      refine v_aload0 X dX5_needs_70 rfl ?_
      refine v_iload1 X dX5_needs_71 rfl ?_
      refine v_ico (v := 1) X dX5_needs_72 (by decide) ?_
      refine v_iload X dX5_needs_73 rfl ?_
      refine cd_X5_60 X dX5_needs_75 (m_setF l (w := 1) hn1 hN hh (by decide)) (gM_t hn1) rfl (Nat.le_of_ble_eq_true rfl) ⟨(Nat.le_of_ble_eq_true rfl), (Nat.le_of_ble_eq_true rfl), (by first | (show _ ≤ 95; omega) | (show _ ≤ 629; omega)), (by first | (show _ ≤ 95; omega) | (show _ ≤ 629; omega))⟩ ?_
      refine v_aload0 X dX5_needs_78 rfl ?_
      refine v_iload1 X dX5_needs_79 rfl ?_
      refine v_ico (v := 2) X dX5_needs_80 (by decide) ?_
      refine v_iload X dX5_needs_81 rfl ?_
      refine v_aload0 X dX5_needs_83 rfl ?_
      refine v_iload1 X dX5_needs_84 rfl ?_
      refine v_ico (v := 2) X dX5_needs_85 (by decide) ?_
      refine cd_X5_56 X dX5_needs_86 (m_hoF l (w := 2) hn1 hN hh (by decide)) (gM_t hn1) rfl (Nat.le_of_ble_eq_true rfl) ⟨(Nat.le_of_ble_eq_true rfl), (Nat.le_of_ble_eq_true rfl), (by first | (show _ ≤ 95; omega) | (show _ ≤ 629; omega)), (by first | (show _ ≤ 95; omega) | (show _ ≤ 629; omega))⟩ ?_
      refine v_mmin X dX5_needs_89 wm_X5_70 wt_J9_min_7cf53 wz_J9 wc_J9_min_7cf53 ⟨(Nat.le_of_ble_eq_true rfl), (Nat.le_of_ble_eq_true rfl), (by first | (show _ ≤ 95; omega) | (show _ ≤ 629; omega)), (by first | (show _ ≤ 95; omega) | (show _ ≤ 629; omega))⟩ ?_
      refine vV.top (congrArg Value.int (jmin_comm (nI (10 * i)) (sH S h 2))) ?_
      refine cd_X5_60 X dX5_needs_92 (m_setF l (w := 2) hn1 hN hh (by decide)) (gM_t hn1) rfl (Nat.le_of_ble_eq_true rfl) ⟨(Nat.le_of_ble_eq_true rfl), (Nat.le_of_ble_eq_true rfl), (by first | (show _ ≤ 95; omega) | (show _ ≤ 629; omega)), (by first | (show _ ≤ 95; omega) | (show _ ≤ 629; omega))⟩ ?_
      refine vV.gg (show _ = gM cy ad1 0 ra le (sizeT h (nI (10 * i)) S) (kB cy ad1 n 4 S g) from rfl) ?_
      refine v_aload0 X dX5_needs_95 rfl ?_
      refine v_iload2 X dX5_needs_96 rfl ?_
      refine cd_X5_92 X dX5_needs_97 (m_daysOn l hn1 hso hwk hd (by omega)) (gM_t hn1) rfl (Nat.le_of_ble_eq_true rfl) ⟨(Nat.le_of_ble_eq_true rfl), (Nat.le_of_ble_eq_true rfl), (by first | (show _ ≤ 95; omega) | (show _ ≤ 629; omega)), (by first | (show _ ≤ 95; omega) | (show _ ≤ 629; omega))⟩ ?_
      refine v_pop X dX5_needs_100 rfl ?_
      refine v_aload0 X dX5_needs_101 rfl ?_
      refine v_iload1 X dX5_needs_102 rfl ?_
      refine v_bip (v := 7) X dX5_needs_103 (by decide) ?_
      refine cd_X5_56 X dX5_needs_105 (m_ho l (w := 7) hn1 o1.1 (by rw [o2]; exact hh) (by decide)) (gM_t hn1) rfl (Nat.le_of_ble_eq_true rfl) ⟨(Nat.le_of_ble_eq_true rfl), (Nat.le_of_ble_eq_true rfl), (by first | (show _ ≤ 95; omega) | (show _ ≤ 629; omega)), (by first | (show _ ≤ 95; omega) | (show _ ≤ 629; omega))⟩ ?_
      refine v_iload X dX5_needs_108 rfl ?_
      refine v_icmp_ne (tgt := 117) X dX5_needs_110 (by decide) (fun hc3 => ?_) (fun hc3 => ?_)
      · refine v_aload0 X dX5_needs_117 rfl ?_
        refine v_aload3 X dX5_needs_118 rfl ?_
        refine cl_X5_110 X dX5_needs_119 (m_back l hn ho o2 o3 hkp) (gM_t hn1) rfl (Nat.le_of_ble_eq_true rfl) ⟨rfl, rfl, Nat.le_of_ble_eq_true rfl, Nat.le_of_ble_eq_true rfl, by show 4 + i + 1 ≤ 95; omega, by show 265 + 4 * i + 4 ≤ 629; omega⟩ ?_
        rintro r2 n2 ad2 g2 ⟨rfl, e2, e3, e4⟩
        rw [e2, e3, e4]
        refine v_iinc6 (v := nI (10 * (i + 1))) X rfl (Nat.le_of_ble_eq_true rfl) dX5_needs_122 (nI_add (10 * i) 10) ?_
        refine v_goto (tgt := 56) X dX5_needs_125 (by decide) ?_
        have ht : t ≠ 0 := fun h0 => hc3 (by rw [t2, e7, h0]; exact Int32.add_zero _)
        rw [if_neg (fun q => ht (t3.mpr q))] at he
        exact (ih (i + 1) (by omega) (by omega) he).wd (by omega) (by omega)
      refine v_iload X dX5_needs_113 rfl ?_
      refine v_istore5 X rfl (Nat.le_of_ble_eq_true rfl) dX5_needs_115 ?_
      refine v_aload0 X dX5_needs_117 rfl ?_
      refine v_aload3 X dX5_needs_118 rfl ?_
      refine cl_X5_110 X dX5_needs_119 (m_back l hn ho o2 o3 hkp) (gM_t hn1) rfl (Nat.le_of_ble_eq_true rfl) ⟨rfl, rfl, Nat.le_of_ble_eq_true rfl, Nat.le_of_ble_eq_true rfl, by show 4 + i + 1 ≤ 95; omega, by show 265 + 4 * i + 4 ≤ 629; omega⟩ ?_
      rintro r2 n2 ad2 g2 ⟨rfl, e2, e3, e4⟩
      rw [e2, e3, e4]
      refine v_iinc6 (v := nI (10 * (i + 1))) X rfl (Nat.le_of_ble_eq_true rfl) dX5_needs_122 (nI_add (10 * i) 10) ?_
      refine v_goto (tgt := 56) X dX5_needs_125 (by decide) ?_
      have ht : t = 0 := by
        rw [t2, e7] at hc3
        exact (add_nI_eq (by omega)).mp hc3
      rw [if_pos (t3.mp ht)] at he
      subst he
      refine v_iload X dX5_needs_56 rfl ?_
      refine v_sip (v := 900) X dX5_needs_58 (by decide) ?_
      refine v_icmp_gt (tgt := 128) X dX5_needs_61 (by decide) (fun hc4 => ?_) (fun hc4 => ?_)
      · exact hZ (i + 1) _ _ (by omega) (by omega)
      refine v_iload X dX5_needs_64 rfl ?_
      refine v_ico (v := -1) X dX5_needs_66 (by decide) ?_
      refine v_icmp_ne (tgt := 128) X dX5_needs_67 (by decide) (fun hc5 => ?_) (fun hc5 => ?_)
      · exact hZ (i + 1) _ _ (by omega) (by omega)
      exact absurd hc5 (nI_m1 (by omega))
  refine v_astore3 X rfl (Nat.le_of_ble_eq_true rfl) dX5_needs_39 ?_
  refine v_aload0 X dX5_needs_40 rfl ?_
  refine v_iload1 X dX5_needs_41 rfl ?_
  refine v_bip (v := 7) X dX5_needs_42 (by decide) ?_
  refine cd_X5_56 X dX5_needs_44 (m_ho l (w := 7) hn1 hN hh (by decide)) (gM_t hn1) rfl (Nat.le_of_ble_eq_true rfl) ⟨(Nat.le_of_ble_eq_true rfl), (Nat.le_of_ble_eq_true rfl), (by first | (show _ ≤ 95; omega) | (show _ ≤ 629; omega)), (by first | (show _ ≤ 95; omega) | (show _ ≤ 629; omega))⟩ ?_
  refine v_istore4 X rfl (Nat.le_of_ble_eq_true rfl) dX5_needs_47 ?_
  refine v_ico (v := -1) X dX5_needs_49 (by decide) ?_
  refine v_istore5 X rfl (Nat.le_of_ble_eq_true rfl) dX5_needs_50 ?_
  refine v_bip (v := 10) X dX5_needs_52 (by decide) ?_
  refine v_istore6 X rfl (Nat.le_of_ble_eq_true rfl) dX5_needs_54 ?_
  exact (hL 90 1 rfl (by omega) hR).wd (by decide) (by decide)
set_option maxRecDepth 100000 in
set_option maxHeartbeats 4000000 in
theorem m_dirty (l : Launch) {z0 n : Nat} {D : va_G} {cy : Nat → ClassId} {ad : Nat → Nat} {d k : Nat} {th : Int32} {ra le : Nat → Int32} {S : tS} {g : Nat → va_E} (hn : 61 ≤ n) (ho : ok S) (hwk : wok ra le) (hd : sM S 0 = nI d) (hd2 : d + k < 2 ^ 31) (h1 : IN (nI k) 1 60) : CtG l yX5_dirty cX5_dirty 7 (some FieldType.int) { frames := 4, cells := 16, slots := 313, locals := 115 } z0 D cy n ad (gM cy ad th ra le S g) [.ref (ad 54), .int (nI k)] (isR (some (.int (dirtyA ra le k S))) n ad (gM cy ad 0 ra le S g)) 16 313 := by
  refine ct_of (by decide +kernel) 5 [some (.ref (ad 54)), some (.int (nI k)), none, none, none, none, none] (Nat.le_of_ble_eq_true rfl) rfl ?_
  intro p e s m below meth c X hr hlk hnm
  generalize ([.ref (ad 54), .int (nI k)] : List Value).toArray = A at X ⊢
  have hN := ho.1
  obtain ⟨o1, o2, o3, o4⟩ := daysS_ok (ra := ra) (le := le) hwk ho hd k
  have hk0 := kp_days (ra := ra) (le := le) hwk ho k
  generalize hQ : MQ below (QcR z0 D (isR (some (.int (dirtyA ra le k S))) n ad (gM cy ad 0 ra le S g))) A s 16 313 (fun q => z0 ≤ q) = Q
  refine v_aload0 X dX5_dirty_0 rfl ?_
  refine v_ico (v := 0) X dX5_dirty_1 (by decide) ?_
  refine pf_X5_28 X dX5_dirty_2 (gM_t hn) ?_
  refine vV.gg (gM_upT) ?_
  refine v_iload1 X dX5_dirty_5 rfl ?_
  refine v_ico (v := 1) X dX5_dirty_6 (by decide) ?_
  refine v_bip (v := 60) X dX5_dirty_7 (by decide) ?_
  refine cd_X5_35 X dX5_dirty_9 (m_isIn l) (Nat.le_of_ble_eq_true rfl) ⟨(Nat.le_of_ble_eq_true rfl), (Nat.le_of_ble_eq_true rfl), (by first | (show _ ≤ 16; omega) | (show _ ≤ 313; omega)), (by first | (show _ ≤ 16; omega) | (show _ ≤ 313; omega))⟩ ?_
  refine v_if_ne (tgt := 21) X dX5_dirty_12 (by decide) (fun hb => ?_) (fun hb => ?_)
  rotate_left
  · exact absurd hb (inB_ne h1)
  refine v_aload0 X dX5_dirty_21 rfl ?_
  refine cl_X5_106 X dX5_dirty_22 (m_kept l hn) (gM_t hn) rfl (Nat.le_of_ble_eq_true rfl) ⟨rfl, rfl, Nat.le_of_ble_eq_true rfl, Nat.le_of_ble_eq_true rfl, Nat.le_of_ble_eq_true rfl, Nat.le_of_ble_eq_true rfl⟩ ?_
  rintro r1 n1 ad1 g1 ⟨rfl, rfl, a1, rfl⟩
  have hn1 : 61 ≤ n + 5 := by omega
  rw [← a1 54 (by omega)]
  have hL : ∀ q i, q + i = sN S → ∀ (lb : Int32 × Int32), (itr (bestS (fun i => liveA ra le k (clT i S))) i q lb).2 = dirtyA ra le k S → vV p l e { frames := 4, cells := 16, slots := 313, locals := 115 } s m A below meth c 7 z0 D (6 + i) (273 + 4 * i) Q (n + 5) ad1 (gM cy ad1 0 ra le S (kB cy ad1 n 4 S g)) 43 [some (.ref (ad1 54)), some (.int (nI k)), some (.ref (ad1 n)), some (.int lb.2), some (.int lb.1), some (.int (nI i)), none] [] := by
    intro q
    induction q with
    | zero =>
      intro i hi lb he
      have : i = sN S := by omega
      subst this
      refine v_iload X dX5_dirty_43 rfl ?_
      refine v_aload0 X dX5_dirty_45 rfl ?_
      refine gf_X5_32 X dX5_dirty_46 (gM_t hn1) ?_
      refine v_icmp_ge (tgt := 95) X dX5_dirty_49 (by decide) (fun hc => ?_) (fun hc => ?_)
      rotate_left
      · exact absurd (Int32.le_refl _) hc
      refine v_iload3 X dX5_dirty_95 rfl ?_
      refine vV.wd (k := 16) (n' := 313) (by omega) (by omega) ?_
      refine vV.cut (n' := n) (ad' := ad) (g' := gM cy ad 0 ra le S g) (by omega) (fun j hj => (a1 j hj).symm) (fin_cut hn a1) ?_
      rw [← hQ]
      exact v_iret X hr hlk dX5_dirty_96 ⟨congrArg (fun q => some (Value.int q)) he, rfl, rfl, rfl⟩
    | succ q ih =>
      intro i hi lb he
      have hi' : i < sN S := by omega
      have hto : ok (clT i S) := clT_ok ho hi'
      obtain ⟨b1, b2, b3, b4⟩ := daysS_ok (ra := ra) (le := le) hwk hto (d := d) hd k
      have hkp : kpS S (daysS ra le k (clT i S)) := kp_days (ra := ra) (le := le) hwk hto k
      have he' : (itr (bestS (fun i => liveA ra le k (clT i S))) (i + 1) q (bestS (fun i => liveA ra le k (clT i S)) i lb)).2 = dirtyA ra le k S := he
      refine v_iload X dX5_dirty_43 rfl ?_
      refine v_aload0 X dX5_dirty_45 rfl ?_
      refine gf_X5_32 X dX5_dirty_46 (gM_t hn1) ?_
      refine v_icmp_ge (tgt := 95) X dX5_dirty_49 (by decide) (fun hc => ?_) (fun hc => ?_)
      · exact absurd hc (nIge hi' (by omega))
      refine vV.gg (show _ = gM cy ad1 0 ra le (hU S i (sH S i)) (kB cy ad1 n 4 S g) by rw [hU_self]) ?_
      refine v_aload0 X dX5_dirty_52 rfl ?_
      refine v_iload X dX5_dirty_53 rfl ?_
      refine v_ico (v := 5) X dX5_dirty_55 (by decide) ?_
      refine v_ico (v := 0) X dX5_dirty_56 (by decide) ?_
      refine cd_X5_60 X dX5_dirty_57 (m_setF l (w := 5) hn1 ho.1 hi' (by decide)) (gM_t hn1) rfl (Nat.le_of_ble_eq_true rfl) ⟨(Nat.le_of_ble_eq_true rfl), (Nat.le_of_ble_eq_true rfl), (by first | (show _ ≤ 16; omega) | (show _ ≤ 313; omega)), (by first | (show _ ≤ 16; omega) | (show _ ≤ 313; omega))⟩ ?_
      refine vV.gg (show _ = gM cy ad1 0 ra le (clT i S) (kB cy ad1 n 4 S g) from rfl) ?_
      refine v_aload0 X dX5_dirty_60 rfl ?_
      refine v_iload1 X dX5_dirty_61 rfl ?_
      refine cd_X5_92 X dX5_dirty_62 (m_daysOn l hn1 hto hwk hd hd2) (gM_t hn1) rfl (Nat.le_of_ble_eq_true rfl) ⟨(Nat.le_of_ble_eq_true rfl), (Nat.le_of_ble_eq_true rfl), (by first | (show _ ≤ 16; omega) | (show _ ≤ 313; omega)), (by first | (show _ ≤ 16; omega) | (show _ ≤ 313; omega))⟩ ?_
      refine vV.top (congrArg Value.int (thDs_eq hwk hto (d := d) hd k)) ?_
      refine v_istore6 X rfl (Nat.le_of_ble_eq_true rfl) dX5_dirty_65 ?_
      refine v_aload0 X dX5_dirty_67 rfl ?_
      refine v_aload2 X dX5_dirty_68 rfl ?_
      refine cl_X5_110 X dX5_dirty_69 (m_back l hn ho b2 b3 hkp) (gM_t hn1) rfl (Nat.le_of_ble_eq_true rfl) ⟨rfl, rfl, Nat.le_of_ble_eq_true rfl, Nat.le_of_ble_eq_true rfl, by show 6 + i + 1 ≤ 16; omega, by show 273 + 4 * i + 4 ≤ 313; omega⟩ ?_
      rintro r2 n2 ad2 g2 ⟨rfl, e2, e3, e4⟩
      rw [e2, e3, e4]
      refine v_iload X dX5_dirty_72 rfl ?_
      refine v_iload X dX5_dirty_74 rfl ?_
      refine v_icmp_lt (tgt := 82) X dX5_dirty_76 (by decide) (fun hc2 => ?_) (fun hc2 => ?_)
      · refine v_iload X dX5_dirty_82 rfl ?_
        refine v_istore3 X rfl (Nat.le_of_ble_eq_true rfl) dX5_dirty_84 ?_
        refine v_iload X dX5_dirty_85 rfl ?_
        refine v_istore4 X rfl (Nat.le_of_ble_eq_true rfl) dX5_dirty_87 ?_
        refine v_iinc5 (v := nI (i + 1)) X rfl (Nat.le_of_ble_eq_true rfl) dX5_dirty_89 (nI_inc i) ?_
        refine v_goto (tgt := 43) X dX5_dirty_92 (by decide) ?_
        have hb : bestS (fun i => liveA ra le k (clT i S)) i lb = (liveA ra le k (clT i S), nI i) := if_pos hc2
        rw [hb] at he'
        exact vV.le (A := [some (.ref (ad1 54)), some (.int (nI k)), some (.ref (ad1 n)), some (.int (nI i)), some (.int (liveA ra le k (clT i S))), some (.int (nI (i + 1))), none]) ⟨rfl, rfl, rfl, rfl, rfl, rfl, trivial⟩ ((ih (i + 1) (by omega) _ he').wd (by omega) (by omega))
      refine v_goto (tgt := 89) X dX5_dirty_79 (by decide) ?_
      refine v_iinc5 (v := nI (i + 1)) X rfl (Nat.le_of_ble_eq_true rfl) dX5_dirty_89 (nI_inc i) ?_
      refine v_goto (tgt := 43) X dX5_dirty_92 (by decide) ?_
      have hb : bestS (fun i => liveA ra le k (clT i S)) i lb = lb := if_neg hc2
      rw [hb] at he'
      exact vV.le (A := [some (.ref (ad1 54)), some (.int (nI k)), some (.ref (ad1 n)), some (.int lb.2), some (.int lb.1), some (.int (nI (i + 1))), none]) ⟨rfl, rfl, rfl, rfl, rfl, rfl, trivial⟩ ((ih (i + 1) (by omega) _ he').wd (by omega) (by omega))
  refine v_astore2 X rfl (Nat.le_of_ble_eq_true rfl) dX5_dirty_25 ?_
  refine v_ico (v := -1) X dX5_dirty_26 (by decide) ?_
  refine v_istore3 X rfl (Nat.le_of_ble_eq_true rfl) dX5_dirty_27 ?_
  refine v_aload0 X dX5_dirty_28 rfl ?_
  refine v_iload1 X dX5_dirty_29 rfl ?_
  refine cd_X5_92 X dX5_dirty_30 (m_daysOn l hn1 ho hwk hd hd2) (gM_t hn1) rfl (Nat.le_of_ble_eq_true rfl) ⟨(Nat.le_of_ble_eq_true rfl), (Nat.le_of_ble_eq_true rfl), (by first | (show _ ≤ 16; omega) | (show _ ≤ 313; omega)), (by first | (show _ ≤ 16; omega) | (show _ ≤ 313; omega))⟩ ?_
  refine vV.top (congrArg Value.int (thDs_eq hwk ho hd k)) ?_
  refine v_istore4 X rfl (Nat.le_of_ble_eq_true rfl) dX5_dirty_33 ?_
  refine v_aload0 X dX5_dirty_35 rfl ?_
  refine v_aload2 X dX5_dirty_36 rfl ?_
  refine cl_X5_110 X dX5_dirty_37 (m_back l hn ho o2 o3 hk0) (gM_t hn1) rfl (Nat.le_of_ble_eq_true rfl) ⟨rfl, rfl, Nat.le_of_ble_eq_true rfl, Nat.le_of_ble_eq_true rfl, Nat.le_of_ble_eq_true rfl, Nat.le_of_ble_eq_true rfl⟩ ?_
  rintro r2 n2 ad2 g2 ⟨rfl, e2, e3, e4⟩
  rw [e2, e3, e4]
  refine v_ico (v := 0) X dX5_dirty_40 (by decide) ?_
  refine v_istore5 X rfl (Nat.le_of_ble_eq_true rfl) dX5_dirty_41 ?_
  exact hL (sN S) 0 (Nat.add_zero _) (liveA ra le k S, -1) rfl
set_option maxRecDepth 100000 in
set_option maxHeartbeats 4000000 in
theorem m_advise (l : Launch) {z0 n : Nat} {D : va_G} {cy : Nat → ClassId} {ad : Nat → Nat} {d k : Nat} {th : Int32} {ra le : Nat → Int32} {S : tS} {g : Nat → va_E} (hn : 61 ≤ n) (ho : ok S) (hwk : wok ra le) (hd : sM S 0 = nI d) (hd2 : d + k < 2 ^ 31) (h1 : IN (nI k) 1 60) : CtG l yX5_advise cX5_advise 7 (some FieldType.int) { frames := 4, cells := 18, slots := 321, locals := 115 } z0 D cy n ad (gM cy ad th ra le S g) [.ref (ad 54), .int (nI k)] (isR (some (.int (adviseA ra le k S))) n ad (gM cy ad 0 ra le S g)) 18 321 := by
  refine ct_of (by decide +kernel) 5 [some (.ref (ad 54)), some (.int (nI k)), none, none, none, none, none] (Nat.le_of_ble_eq_true rfl) rfl ?_
  intro p e s m below meth c X hr hlk hnm
  generalize ([.ref (ad 54), .int (nI k)] : List Value).toArray = A at X ⊢
  have hN := ho.2.1
  obtain ⟨o1, o2, o3, o4⟩ := daysS_ok (ra := ra) (le := le) hwk ho hd k
  have hk0 := kp_days (ra := ra) (le := le) hwk ho k
  generalize hQ : MQ below (QcR z0 D (isR (some (.int (adviseA ra le k S))) n ad (gM cy ad 0 ra le S g))) A s 18 321 (fun q => z0 ≤ q) = Q
  refine v_aload0 X dX5_advise_0 rfl ?_
  refine v_ico (v := 0) X dX5_advise_1 (by decide) ?_
  refine pf_X5_28 X dX5_advise_2 (gM_t hn) ?_
  refine vV.gg (gM_upT) ?_
  refine v_iload1 X dX5_advise_5 rfl ?_
  refine v_ico (v := 1) X dX5_advise_6 (by decide) ?_
  refine v_bip (v := 60) X dX5_advise_7 (by decide) ?_
  refine cd_X5_35 X dX5_advise_9 (m_isIn l) (Nat.le_of_ble_eq_true rfl) ⟨(Nat.le_of_ble_eq_true rfl), (Nat.le_of_ble_eq_true rfl), (by first | (show _ ≤ 18; omega) | (show _ ≤ 321; omega)), (by first | (show _ ≤ 18; omega) | (show _ ≤ 321; omega))⟩ ?_
  refine v_if_ne (tgt := 21) X dX5_advise_12 (by decide) (fun hb => ?_) (fun hb => ?_)
  rotate_left
  · exact absurd hb (inB_ne h1)
  refine v_aload0 X dX5_advise_21 rfl ?_
  refine cl_X5_106 X dX5_advise_22 (m_kept l hn) (gM_t hn) rfl (Nat.le_of_ble_eq_true rfl) ⟨rfl, rfl, Nat.le_of_ble_eq_true rfl, Nat.le_of_ble_eq_true rfl, Nat.le_of_ble_eq_true rfl, Nat.le_of_ble_eq_true rfl⟩ ?_
  rintro r1 n1 ad1 g1 ⟨rfl, rfl, a1, rfl⟩
  have hn1 : 61 ≤ n + 5 := by omega
  rw [← a1 54 (by omega)]
  have hL : ∀ q i, q + i = sP S → ∀ (lb : Int32 × Int32), (itr (bestS (fun i => liveA ra le k (togT i S))) i q lb).2 = adviseA ra le k S → vV p l e { frames := 4, cells := 18, slots := 321, locals := 115 } s m A below meth c 7 z0 D (6 + i) (273 + 4 * i) Q (n + 5) ad1 (gM cy ad1 0 ra le S (kB cy ad1 n 4 S g)) 43 [some (.ref (ad1 54)), some (.int (nI k)), some (.ref (ad1 n)), some (.int lb.2), some (.int lb.1), some (.int (nI i)), none] [] := by
    intro q
    induction q with
    | zero =>
      intro i hi lb he
      have : i = sP S := by omega
      subst this
      refine v_iload X dX5_advise_43 rfl ?_
      refine v_aload0 X dX5_advise_45 rfl ?_
      refine gf_X5_39 X dX5_advise_46 (gM_t hn1) ?_
      refine v_icmp_ge (tgt := 107) X dX5_advise_49 (by decide) (fun hc => ?_) (fun hc => ?_)
      rotate_left
      · exact absurd (Int32.le_refl _) hc
      refine v_iload3 X dX5_advise_107 rfl ?_
      refine vV.wd (k := 18) (n' := 321) (by omega) (by omega) ?_
      refine vV.cut (n' := n) (ad' := ad) (g' := gM cy ad 0 ra le S g) (by omega) (fun j hj => (a1 j hj).symm) (fin_cut hn a1) ?_
      rw [← hQ]
      exact v_iret X hr hlk dX5_advise_108 ⟨congrArg (fun q => some (Value.int q)) he, rfl, rfl, rfl⟩
    | succ q ih =>
      intro i hi lb he
      have hi' : i < sP S := by omega
      have hto : ok (togT i S) := tuT_ok ho isB_if
      obtain ⟨b1, b2, b3, b4⟩ := daysS_ok (ra := ra) (le := le) hwk hto (d := d) hd k
      have hkp : kpS S (daysS ra le k (togT i S)) := kp_days (ra := ra) (le := le) hwk hto k
      have he' : (itr (bestS (fun i => liveA ra le k (togT i S))) (i + 1) q (bestS (fun i => liveA ra le k (togT i S)) i lb)).2 = adviseA ra le k S := he
      refine v_iload X dX5_advise_43 rfl ?_
      refine v_aload0 X dX5_advise_45 rfl ?_
      refine gf_X5_39 X dX5_advise_46 (gM_t hn1) ?_
      refine v_icmp_ge (tgt := 107) X dX5_advise_49 (by decide) (fun hc => ?_) (fun hc => ?_)
      · exact absurd hc (nIge hi' (by omega))
      obtain ⟨-, -, -, -, -, -, -, hq⟩ := okQ_ends ho hi'
      have e1 : 1 - sQ S i 3 = if sQ S i 3 = 0 then 1 else 0 := by
        rcases hq with hq | hq
        · rw [if_pos hq, hq]; decide
        · rw [hq]; decide
      refine v_aload0 X dX5_advise_52 rfl ?_
      refine gf_X5_19 X dX5_advise_53 (gM_t hn1) ?_
      refine v_ico (v := 5) X dX5_advise_56 (by decide) ?_
      refine v_iload X dX5_advise_57 rfl ?_
      refine v_imul X dX5_advise_59 ?_
      refine v_ico (v := 3) X dX5_advise_60 (by decide) ?_
      refine v_iadd X dX5_advise_61 ?_
      refine v_ico (v := 1) X dX5_advise_62 (by decide) ?_
      refine v_aload0 X dX5_advise_63 rfl ?_
      refine v_iload X dX5_advise_64 rfl ?_
      refine v_ico (v := 3) X dX5_advise_66 (by decide) ?_
      refine cd_X5_67 X dX5_advise_67 (m_pi l (w := 3) hn1 hN hi' (by decide)) (gM_t hn1) rfl (Nat.le_of_ble_eq_true rfl) ⟨(Nat.le_of_ble_eq_true rfl), (Nat.le_of_ble_eq_true rfl), (by first | (show _ ≤ 18; omega) | (show _ ≤ 321; omega)), (by first | (show _ ≤ 18; omega) | (show _ ≤ 321; omega))⟩ ?_
      refine v_isub X dX5_advise_70 ?_
      refine vV.top (congrArg Value.int e1) ?_
      refine v_iast X dX5_advise_71 (gM_l hn1) (ix5 i 3) (by omega) (by decide) ?_
      refine vV.gg (gM_upL hi' (by decide)) ?_
      refine vV.gg (show _ = gM cy ad1 0 ra le (togT i S) (kB cy ad1 n 4 S g) from rfl) ?_
      refine v_aload0 X dX5_advise_72 rfl ?_
      refine v_iload1 X dX5_advise_73 rfl ?_
      refine cd_X5_92 X dX5_advise_74 (m_daysOn l hn1 hto hwk hd hd2) (gM_t hn1) rfl (Nat.le_of_ble_eq_true rfl) ⟨(Nat.le_of_ble_eq_true rfl), (Nat.le_of_ble_eq_true rfl), (by first | (show _ ≤ 18; omega) | (show _ ≤ 321; omega)), (by first | (show _ ≤ 18; omega) | (show _ ≤ 321; omega))⟩ ?_
      refine vV.top (congrArg Value.int (thDs_eq hwk hto (d := d) hd k)) ?_
      refine v_istore6 X rfl (Nat.le_of_ble_eq_true rfl) dX5_advise_77 ?_
      refine v_aload0 X dX5_advise_79 rfl ?_
      refine v_aload2 X dX5_advise_80 rfl ?_
      refine cl_X5_110 X dX5_advise_81 (m_back l hn ho b2 b3 hkp) (gM_t hn1) rfl (Nat.le_of_ble_eq_true rfl) ⟨rfl, rfl, Nat.le_of_ble_eq_true rfl, Nat.le_of_ble_eq_true rfl, by show 6 + i + 1 ≤ 18; omega, by show 273 + 4 * i + 4 ≤ 321; omega⟩ ?_
      rintro r2 n2 ad2 g2 ⟨rfl, e2, e3, e4⟩
      rw [e2, e3, e4]
      refine v_iload X dX5_advise_84 rfl ?_
      refine v_iload X dX5_advise_86 rfl ?_
      refine v_icmp_lt (tgt := 94) X dX5_advise_88 (by decide) (fun hc2 => ?_) (fun hc2 => ?_)
      · refine v_iload X dX5_advise_94 rfl ?_
        refine v_istore3 X rfl (Nat.le_of_ble_eq_true rfl) dX5_advise_96 ?_
        refine v_iload X dX5_advise_97 rfl ?_
        refine v_istore4 X rfl (Nat.le_of_ble_eq_true rfl) dX5_advise_99 ?_
        refine v_iinc5 (v := nI (i + 1)) X rfl (Nat.le_of_ble_eq_true rfl) dX5_advise_101 (nI_inc i) ?_
        refine v_goto (tgt := 43) X dX5_advise_104 (by decide) ?_
        have hb : bestS (fun i => liveA ra le k (togT i S)) i lb = (liveA ra le k (togT i S), nI i) := if_pos hc2
        rw [hb] at he'
        exact vV.le (A := [some (.ref (ad1 54)), some (.int (nI k)), some (.ref (ad1 n)), some (.int (nI i)), some (.int (liveA ra le k (togT i S))), some (.int (nI (i + 1))), none]) ⟨rfl, rfl, rfl, rfl, rfl, rfl, trivial⟩ ((ih (i + 1) (by omega) _ he').wd (by omega) (by omega))
      refine v_goto (tgt := 101) X dX5_advise_91 (by decide) ?_
      refine v_iinc5 (v := nI (i + 1)) X rfl (Nat.le_of_ble_eq_true rfl) dX5_advise_101 (nI_inc i) ?_
      refine v_goto (tgt := 43) X dX5_advise_104 (by decide) ?_
      have hb : bestS (fun i => liveA ra le k (togT i S)) i lb = lb := if_neg hc2
      rw [hb] at he'
      exact vV.le (A := [some (.ref (ad1 54)), some (.int (nI k)), some (.ref (ad1 n)), some (.int lb.2), some (.int lb.1), some (.int (nI (i + 1))), none]) ⟨rfl, rfl, rfl, rfl, rfl, rfl, trivial⟩ ((ih (i + 1) (by omega) _ he').wd (by omega) (by omega))
  refine v_astore2 X rfl (Nat.le_of_ble_eq_true rfl) dX5_advise_25 ?_
  refine v_ico (v := -1) X dX5_advise_26 (by decide) ?_
  refine v_istore3 X rfl (Nat.le_of_ble_eq_true rfl) dX5_advise_27 ?_
  refine v_aload0 X dX5_advise_28 rfl ?_
  refine v_iload1 X dX5_advise_29 rfl ?_
  refine cd_X5_92 X dX5_advise_30 (m_daysOn l hn1 ho hwk hd hd2) (gM_t hn1) rfl (Nat.le_of_ble_eq_true rfl) ⟨(Nat.le_of_ble_eq_true rfl), (Nat.le_of_ble_eq_true rfl), (by first | (show _ ≤ 18; omega) | (show _ ≤ 321; omega)), (by first | (show _ ≤ 18; omega) | (show _ ≤ 321; omega))⟩ ?_
  refine vV.top (congrArg Value.int (thDs_eq hwk ho hd k)) ?_
  refine v_istore4 X rfl (Nat.le_of_ble_eq_true rfl) dX5_advise_33 ?_
  refine v_aload0 X dX5_advise_35 rfl ?_
  refine v_aload2 X dX5_advise_36 rfl ?_
  refine cl_X5_110 X dX5_advise_37 (m_back l hn ho o2 o3 hk0) (gM_t hn1) rfl (Nat.le_of_ble_eq_true rfl) ⟨rfl, rfl, Nat.le_of_ble_eq_true rfl, Nat.le_of_ble_eq_true rfl, Nat.le_of_ble_eq_true rfl, Nat.le_of_ble_eq_true rfl⟩ ?_
  rintro r2 n2 ad2 g2 ⟨rfl, e2, e3, e4⟩
  rw [e2, e3, e4]
  refine v_ico (v := 0) X dX5_advise_40 (by decide) ?_
  refine v_istore5 X rfl (Nat.le_of_ble_eq_true rfl) dX5_advise_41 ?_
  exact hL (sP S) 0 (Nat.add_zero _) (liveA ra le k S, -1) rfl
