/-! full, digest -/
def fullA (S : tS) : UInt64 := if 0 < sumS 1 S then FP.ddiv (FP.i2d (sumS 2 S)) (FP.i2d (sumS 1 S)) else 0
theorem nI_self {x : Int32} {N : Nat} (h1 : 0 ≤ x.toInt) (h2 : x.toInt ≤ N) (hN : N < 2 ^ 31) : ∃ j : Nat, j ≤ N ∧ (j : Int) = x.toInt ∧ x = nI j := by
  refine ⟨x.toInt.toNat, by omega, by omega, Int32.toInt_inj.mp ?_⟩
  rw [nI_toInt (by omega)]
  omega
theorem sums_ok {S : tS} (ho : ok S) : ∃ A B, sumS 2 S = nI A ∧ sumS 1 S = nI B ∧ A ≤ 9000 ∧ B ≤ 9000 ∧ 10 * sN S ≤ B := by
  have hN := ho.1
  have h2 := itr_inv (fun i a => a + sH S i 2) (fun i a => ∃ A, a = nI A ∧ A ≤ 900 * i) (sN S) (by
    rintro i a hi ⟨A, rfl, hA⟩
    obtain ⟨a1, b1, c1, _⟩ := ho.2.2.1 i hi
    obtain ⟨j, j1, j2, j3⟩ := nI_self (N := 900) c1.1 (by omega) (by decide)
    exact ⟨A + j, by show nI A + sH S i 2 = _; rw [j3, nI_add], by omega⟩) (sN S) 0 0 (Nat.zero_add _) ⟨0, rfl, Nat.le_refl _⟩
  have h1 := itr_inv (fun i a => a + sH S i 1) (fun i a => ∃ A, a = nI A ∧ A ≤ 900 * i ∧ 10 * i ≤ A) (sN S) (by
    rintro i a hi ⟨A, rfl, hA, hA2⟩
    obtain ⟨a1, b1, c1, _⟩ := ho.2.2.1 i hi
    obtain ⟨j, j1, j2, j3⟩ := nI_self (N := 900) (x := sH S i 1) (by omega) (by omega) (by decide)
    exact ⟨A + j, by show nI A + sH S i 1 = _; rw [j3, nI_add], by omega, by omega⟩) (sN S) 0 0 (Nat.zero_add _) ⟨0, rfl, Nat.le_refl _, Nat.le_refl _⟩
  obtain ⟨A, a1, a2⟩ := h2
  obtain ⟨B, b1, b2, b3⟩ := h1
  exact ⟨A, B, a1, b1, by omega, by omega, b3⟩
set_option maxRecDepth 100000 in
set_option maxHeartbeats 4000000 in
theorem c_full (l : Launch) {z0 n : Nat} {D : va_G} {cy : Nat → ClassId} {ad : Nat → Nat} {S : tS} {g0 : Nat → va_E} (hR : RO ad n g0) (ho : ok S) : Ct0 l yX4_full cX4_full 2 (some FieldType.double) 1 22 z0 D cy n ad (gV cy ad 4 S g0) [.ref (ad 0)] (some (.double (fullA S))) (gV cy ad 4 S g0) := by
  refine ct_of (by decide +kernel) 1 [some (.ref (ad 0)), none] (Nat.le_of_ble_eq_true rfl) rfl ?_
  intro p e s m below meth c X hr hlk hnm
  obtain ⟨A, B, a1, b1, a2, b2, b3⟩ := sums_ok ho
  refine v_aload0 X dX4_full_0 rfl ?_
  refine gf_X4_21 X dX4_full_1 hR.v.2 ?_
  refine cd_X4_148 X dX4_full_4 (c_X2_allHolds l hR.1 ho) (gV_v hR.1) rfl (Nat.le_of_ble_eq_true rfl) ⟨(Nat.le_of_ble_eq_true rfl), (Nat.le_of_ble_eq_true rfl), (Nat.le_of_ble_eq_true rfl), (Nat.le_of_ble_eq_true rfl)⟩ ?_
  refine v_istore1 X rfl (Nat.le_of_ble_eq_true rfl) dX4_full_7 ?_
  refine v_iload1 X dX4_full_8 rfl ?_
  refine v_if_le (tgt := 26) X dX4_full_9 (by decide) (fun hc => ?_) (fun hc => ?_)
  · refine v_dcon X dX4_full_26 ?_
    exact v_dret X hr hlk dX4_full_27 ⟨by unfold fullA; rw [if_neg (Int32.not_lt.mpr hc)], rfl, rfl, rfl⟩
  have hc' : 0 < sumS 1 S := Int32.not_le.mp hc
  have hq : vf_n64 (FP.ddiv (FP.i2d (sumS 2 S)) (FP.i2d (sumS 1 S))) := by
    rw [a1, b1]
    refine fq_div a2 b2 ?_
    rw [b1] at hc'
    rcases Nat.eq_zero_or_pos B with h | h
    · subst h; exact absurd hc' (by decide)
    · exact h
  refine v_aload0 X dX4_full_12 rfl ?_
  refine gf_X4_21 X dX4_full_13 hR.v.2 ?_
  refine cd_X4_132 X dX4_full_16 (c_X2_allWater l hR.1 ho) (gV_v hR.1) rfl (Nat.le_of_ble_eq_true rfl) ⟨(Nat.le_of_ble_eq_true rfl), (Nat.le_of_ble_eq_true rfl), (Nat.le_of_ble_eq_true rfl), (Nat.le_of_ble_eq_true rfl)⟩ ?_
  refine v_i2d X dX4_full_19 ?_
  refine v_iload1 X dX4_full_20 rfl ?_
  refine v_i2d X dX4_full_21 ?_
  refine v_ddiv X dX4_full_22 hq ?_
  refine v_goto (tgt := 27) X dX4_full_23 (by decide) ?_
  exact v_dret X hr hlk dX4_full_27 ⟨by unfold fullA; rw [if_pos hc'], rfl, rfl, rfl⟩
def mixA (d : Int64) (x : Int32) : Int64 := d * 31 + x.toInt64
def dgH (S : tS) (d : Int64) : Int64 := itr (fun i d => itr (fun j d => mixA d (sH S i j)) 0 10 d) 0 (sN S) d
def dgP (S : tS) (d : Int64) : Int64 := itr (fun i d => itr (fun j d => mixA d (sQ S i j)) 0 5 d) 0 (sP S) d
def dgD (S : tS) (d : Int64) : Int64 := itr (fun i d => itr (fun j d => mixA d (debtS (nI i) (nI j) S)) (i + 1) (sN S - (i + 1)) d) 0 (sN S) d
def dg0 (ra le : Nat → Int32) (S : tS) : Int64 := itr (fun j d => mixA d (10 * ra j + le j)) 0 28 (itr (fun j d => mixA d (totalS S j)) 0 11 673)
def digA (ra le : Nat → Int32) (S : tS) : Int64 := dgD S (dgP S (dgH S (dg0 ra le S)))
set_option maxRecDepth 100000 in
set_option maxHeartbeats 4000000 in
theorem c_mixHouses (l : Launch) {z0 n : Nat} {D : va_G} {cy : Nat → ClassId} {ad : Nat → Nat} {S : tS} {g0 : Nat → va_E} {d0 : Int64} (hR : RO ad n g0) (ho : ok S) : Ct0 l yX4_mixHouses cX4_mixHouses 7 (some FieldType.long) 1 23 z0 D cy n ad (gV cy ad 4 S g0) [.ref (ad 0), .long d0] (some (.long (dgH S d0))) (gV cy ad 4 S g0) := by
  refine ct_of (by decide +kernel) 4 [some (.ref (ad 0)), some (.long d0), none, none, none, none, none] (Nat.le_of_ble_eq_true rfl) rfl ?_
  intro p e s m below meth c X hr hlk hnm
  generalize hQ : MQ below (QcR z0 D (isR (some (.long (dgH S d0))) n ad (gV cy ad 4 S g0))) ([.ref (ad 0), .long d0] : List Value).toArray s 0 0 (fun q => z0 ≤ q) = Q
  refine v_lload1 X dX4_mixHouses_0 rfl ?_
  refine v_lstore3 X rfl (Nat.le_of_ble_eq_true rfl) dX4_mixHouses_1 ?_
  refine v_ico (v := 0) X dX4_mixHouses_2 (by decide) ?_
  refine v_istore5 X rfl (Nat.le_of_ble_eq_true rfl) dX4_mixHouses_3 ?_
  refine loop_up (fun i d => itr (fun j d => mixA d (sH S i j)) 0 10 d) (fun i d => vV p l e (rmv 1 23) s m ([.ref (ad 0), .long d0] : List Value).toArray below meth c 7 z0 D 0 0 Q n ad (gV cy ad 4 S g0) 5 [some (.ref (ad 0)), some (.long d0), none, some (.long d), none, some (.int (nI i)), none] []) (sN S) ?_ (sN S) 0 d0 (Nat.zero_add _) ?_
  · intro i d hi hk
    refine v_iload X dX4_mixHouses_5 rfl ?_
    refine v_aload0 X dX4_mixHouses_7 rfl ?_
    refine gf_X4_21 X dX4_mixHouses_8 hR.v.2 ?_
    refine gf_X4_47 X dX4_mixHouses_11 (gV_v hR.1) ?_
    refine v_icmp_ge (tgt := 60) X dX4_mixHouses_14 (by decide) (fun hc => ?_) (fun hc => ?_)
    · exact absurd hc (nIge hi (N31 ho))
    refine v_ico (v := 0) X dX4_mixHouses_17 (by decide) ?_
    refine v_istore6 X rfl (Nat.le_of_ble_eq_true rfl) dX4_mixHouses_18 ?_
    refine loop_up (fun j d => mixA d (sH S i j)) (fun j d => vV p l e (rmv 1 23) s m ([.ref (ad 0), .long d0] : List Value).toArray below meth c 7 z0 D 0 0 Q n ad (gV cy ad 4 S g0) 20 [some (.ref (ad 0)), some (.long d0), none, some (.long d), none, some (.int (nI i)), some (.int (nI j))] []) 10 ?_ 10 0 d (Nat.zero_add _) ?_
    · intro j d hj hk2
      refine v_iload X dX4_mixHouses_20 rfl ?_
      refine v_bip (v := 10) X dX4_mixHouses_22 (by decide) ?_
      refine v_icmp_ge (tgt := 54) X dX4_mixHouses_24 (by decide) (fun hc2 => ?_) (fun hc2 => ?_)
      · exact absurd hc2 (nIge (N := 10) hj (by decide))
      refine v_lload3 X dX4_mixHouses_27 rfl ?_
      refine v_aload0 X dX4_mixHouses_28 rfl ?_
      refine gf_X4_21 X dX4_mixHouses_29 hR.v.2 ?_
      refine gf_X4_70 X dX4_mixHouses_32 (gV_v hR.1) ?_
      refine v_iload X dX4_mixHouses_35 rfl ?_
      refine v_aaldH X dX4_mixHouses_37 (gV_ha hR.1) rfl (le10 ho hi) ?_
      refine v_iload X dX4_mixHouses_38 rfl ?_
      refine cd_X4_115 X dX4_mixHouses_40 (c_X0_fact l hj (gV_h hR.1 ho.1 hi)) (gV_h hR.1 ho.1 hi) rfl (Nat.le_of_ble_eq_true rfl) ⟨(Nat.le_of_ble_eq_true rfl), (Nat.le_of_ble_eq_true rfl), (Nat.le_of_ble_eq_true rfl), (Nat.le_of_ble_eq_true rfl)⟩ ?_
      refine v_i2l X dX4_mixHouses_43 ?_
      refine cd_X4_153 X dX4_mixHouses_44 (c_mix l) (Nat.le_of_ble_eq_true rfl) ⟨(Nat.le_of_ble_eq_true rfl), (Nat.le_of_ble_eq_true rfl), (Nat.le_of_ble_eq_true rfl), (Nat.le_of_ble_eq_true rfl)⟩ ?_
      refine v_lstore3 X rfl (Nat.le_of_ble_eq_true rfl) dX4_mixHouses_47 ?_
      refine v_iinc6 (v := nI (j + 1)) X rfl (Nat.le_of_ble_eq_true rfl) dX4_mixHouses_48 (nI_inc j) ?_
      refine v_goto (tgt := 20) X dX4_mixHouses_51 (by decide) ?_
      exact hk2
    · refine v_iload X dX4_mixHouses_20 rfl ?_
      refine v_bip (v := 10) X dX4_mixHouses_22 (by decide) ?_
      refine v_icmp_ge (tgt := 54) X dX4_mixHouses_24 (by decide) (fun hc2 => ?_) (fun hc2 => ?_)
      · refine v_iinc5 (v := nI (i + 1)) X rfl (Nat.le_of_ble_eq_true rfl) dX4_mixHouses_54 (nI_inc i) ?_
        refine v_goto (tgt := 5) X dX4_mixHouses_57 (by decide) ?_
        exact vV.le (A := [some (.ref (ad 0)), some (.long d0), none, some (.long _), none, some (.int (nI (i + 1))), none]) ⟨rfl, rfl, rfl, rfl, trivial⟩ hk
      exact absurd (Int32.le_refl _) hc2
  · refine v_iload X dX4_mixHouses_5 rfl ?_
    refine v_aload0 X dX4_mixHouses_7 rfl ?_
    refine gf_X4_21 X dX4_mixHouses_8 hR.v.2 ?_
    refine gf_X4_47 X dX4_mixHouses_11 (gV_v hR.1) ?_
    refine v_icmp_ge (tgt := 60) X dX4_mixHouses_14 (by decide) (fun hc => ?_) (fun hc => ?_)
    · refine v_lload3 X dX4_mixHouses_60 rfl ?_
      rw [← hQ]
      exact v_lret X hr hlk dX4_mixHouses_61 ⟨rfl, rfl, rfl, rfl⟩
    exact absurd (Int32.le_refl _) hc
set_option maxRecDepth 100000 in
set_option maxHeartbeats 4000000 in
theorem c_mixPipes (l : Launch) {z0 n : Nat} {D : va_G} {cy : Nat → ClassId} {ad : Nat → Nat} {S : tS} {g0 : Nat → va_E} {d0 : Int64} (hR : RO ad n g0) (ho : ok S) : Ct0 l yX4_mixPipes cX4_mixPipes 7 (some FieldType.long) 1 23 z0 D cy n ad (gV cy ad 4 S g0) [.ref (ad 0), .long d0] (some (.long (dgP S d0))) (gV cy ad 4 S g0) := by
  refine ct_of (by decide +kernel) 4 [some (.ref (ad 0)), some (.long d0), none, none, none, none, none] (Nat.le_of_ble_eq_true rfl) rfl ?_
  intro p e s m below meth c X hr hlk hnm
  have hP := ho.2.1
  generalize hQ : MQ below (QcR z0 D (isR (some (.long (dgP S d0))) n ad (gV cy ad 4 S g0))) ([.ref (ad 0), .long d0] : List Value).toArray s 0 0 (fun q => z0 ≤ q) = Q
  refine v_lload1 X dX4_mixPipes_0 rfl ?_
  refine v_lstore3 X rfl (Nat.le_of_ble_eq_true rfl) dX4_mixPipes_1 ?_
  refine v_ico (v := 0) X dX4_mixPipes_2 (by decide) ?_
  refine v_istore5 X rfl (Nat.le_of_ble_eq_true rfl) dX4_mixPipes_3 ?_
  refine loop_up (fun i d => itr (fun j d => mixA d (sQ S i j)) 0 5 d) (fun i d => vV p l e (rmv 1 23) s m ([.ref (ad 0), .long d0] : List Value).toArray below meth c 7 z0 D 0 0 Q n ad (gV cy ad 4 S g0) 5 [some (.ref (ad 0)), some (.long d0), none, some (.long d), none, some (.int (nI i)), none] []) (sP S) ?_ (sP S) 0 d0 (Nat.zero_add _) ?_
  · intro i d hi hk
    refine v_iload X dX4_mixPipes_5 rfl ?_
    refine v_aload0 X dX4_mixPipes_7 rfl ?_
    refine gf_X4_21 X dX4_mixPipes_8 hR.v.2 ?_
    refine gf_X4_82 X dX4_mixPipes_11 (gV_v hR.1) ?_
    refine v_icmp_ge (tgt := 59) X dX4_mixPipes_14 (by decide) (fun hc => ?_) (fun hc => ?_)
    · exact absurd hc (nIge hi (by omega))
    refine v_ico (v := 0) X dX4_mixPipes_17 (by decide) ?_
    refine v_istore6 X rfl (Nat.le_of_ble_eq_true rfl) dX4_mixPipes_18 ?_
    refine loop_up (fun j d => mixA d (sQ S i j)) (fun j d => vV p l e (rmv 1 23) s m ([.ref (ad 0), .long d0] : List Value).toArray below meth c 7 z0 D 0 0 Q n ad (gV cy ad 4 S g0) 20 [some (.ref (ad 0)), some (.long d0), none, some (.long d), none, some (.int (nI i)), some (.int (nI j))] []) 5 ?_ 5 0 d (Nat.zero_add _) ?_
    · intro j d hj hk2
      refine v_iload X dX4_mixPipes_20 rfl ?_
      refine v_ico (v := 5) X dX4_mixPipes_22 (by decide) ?_
      refine v_icmp_ge (tgt := 53) X dX4_mixPipes_23 (by decide) (fun hc2 => ?_) (fun hc2 => ?_)
      · exact absurd hc2 (nIge (N := 5) hj (by decide))
      refine v_lload3 X dX4_mixPipes_26 rfl ?_
      refine v_aload0 X dX4_mixPipes_27 rfl ?_
      refine gf_X4_21 X dX4_mixPipes_28 hR.v.2 ?_
      refine gf_X4_92 X dX4_mixPipes_31 (gV_v hR.1) ?_
      refine v_iload X dX4_mixPipes_34 rfl ?_
      refine v_aaldP X dX4_mixPipes_36 (gV_pa hR.1) rfl (le12 ho hi) ?_
      refine v_iload X dX4_mixPipes_37 rfl ?_
      refine cd_X4_118 X dX4_mixPipes_39 (c_X1_fact l hj (gV_p hR.1 ho.1 ho.2.1 hi) (okQ_ends ho hi).2.2.2.2.2.2.2) (gV_p hR.1 ho.1 ho.2.1 hi) rfl (Nat.le_of_ble_eq_true rfl) ⟨(Nat.le_of_ble_eq_true rfl), (Nat.le_of_ble_eq_true rfl), (Nat.le_of_ble_eq_true rfl), (Nat.le_of_ble_eq_true rfl)⟩ ?_
      refine v_i2l X dX4_mixPipes_42 ?_
      refine cd_X4_153 X dX4_mixPipes_43 (c_mix l) (Nat.le_of_ble_eq_true rfl) ⟨(Nat.le_of_ble_eq_true rfl), (Nat.le_of_ble_eq_true rfl), (Nat.le_of_ble_eq_true rfl), (Nat.le_of_ble_eq_true rfl)⟩ ?_
      refine v_lstore3 X rfl (Nat.le_of_ble_eq_true rfl) dX4_mixPipes_46 ?_
      refine v_iinc6 (v := nI (j + 1)) X rfl (Nat.le_of_ble_eq_true rfl) dX4_mixPipes_47 (nI_inc j) ?_
      refine v_goto (tgt := 20) X dX4_mixPipes_50 (by decide) ?_
      exact hk2
    · refine v_iload X dX4_mixPipes_20 rfl ?_
      refine v_ico (v := 5) X dX4_mixPipes_22 (by decide) ?_
      refine v_icmp_ge (tgt := 53) X dX4_mixPipes_23 (by decide) (fun hc2 => ?_) (fun hc2 => ?_)
      · refine v_iinc5 (v := nI (i + 1)) X rfl (Nat.le_of_ble_eq_true rfl) dX4_mixPipes_53 (nI_inc i) ?_
        refine v_goto (tgt := 5) X dX4_mixPipes_56 (by decide) ?_
        exact vV.le (A := [some (.ref (ad 0)), some (.long d0), none, some (.long _), none, some (.int (nI (i + 1))), none]) ⟨rfl, rfl, rfl, rfl, trivial⟩ hk
      exact absurd (Int32.le_refl _) hc2
  · refine v_iload X dX4_mixPipes_5 rfl ?_
    refine v_aload0 X dX4_mixPipes_7 rfl ?_
    refine gf_X4_21 X dX4_mixPipes_8 hR.v.2 ?_
    refine gf_X4_82 X dX4_mixPipes_11 (gV_v hR.1) ?_
    refine v_icmp_ge (tgt := 59) X dX4_mixPipes_14 (by decide) (fun hc => ?_) (fun hc => ?_)
    · refine v_lload3 X dX4_mixPipes_59 rfl ?_
      rw [← hQ]
      exact v_lret X hr hlk dX4_mixPipes_60 ⟨rfl, rfl, rfl, rfl⟩
    exact absurd (Int32.le_refl _) hc
set_option maxRecDepth 100000 in
set_option maxHeartbeats 4000000 in
theorem c_mixDebts (l : Launch) {z0 n : Nat} {D : va_G} {cy : Nat → ClassId} {ad : Nat → Nat} {S : tS} {g0 : Nat → va_E} {d0 : Int64} (hR : RO ad n g0) (ho : ok S) : Ct0 l yX4_mixDebts cX4_mixDebts 7 (some FieldType.long) 2 46 z0 D cy n ad (gV cy ad 4 S g0) [.ref (ad 0), .long d0] (some (.long (dgD S d0))) (gV cy ad 4 S g0) := by
  refine ct_of (by decide +kernel) 4 [some (.ref (ad 0)), some (.long d0), none, none, none, none, none] (Nat.le_of_ble_eq_true rfl) rfl ?_
  intro p e s m below meth c X hr hlk hnm
  have hN := ho.1
  generalize hQ : MQ below (QcR z0 D (isR (some (.long (dgD S d0))) n ad (gV cy ad 4 S g0))) ([.ref (ad 0), .long d0] : List Value).toArray s 0 0 (fun q => z0 ≤ q) = Q
  refine v_lload1 X dX4_mixDebts_0 rfl ?_
  refine v_lstore3 X rfl (Nat.le_of_ble_eq_true rfl) dX4_mixDebts_1 ?_
  refine v_ico (v := 0) X dX4_mixDebts_2 (by decide) ?_
  refine v_istore5 X rfl (Nat.le_of_ble_eq_true rfl) dX4_mixDebts_3 ?_
  refine loop_up (fun i d => itr (fun j d => mixA d (debtS (nI i) (nI j) S)) (i + 1) (sN S - (i + 1)) d) (fun i d => vV p l e (rmv 2 46) s m ([.ref (ad 0), .long d0] : List Value).toArray below meth c 7 z0 D 0 0 Q n ad (gV cy ad 4 S g0) 5 [some (.ref (ad 0)), some (.long d0), none, some (.long d), none, some (.int (nI i)), none] []) (sN S) ?_ (sN S) 0 d0 (Nat.zero_add _) ?_
  · intro i d hi hk
    refine v_iload X dX4_mixDebts_5 rfl ?_
    refine v_aload0 X dX4_mixDebts_7 rfl ?_
    refine gf_X4_21 X dX4_mixDebts_8 hR.v.2 ?_
    refine gf_X4_47 X dX4_mixDebts_11 (gV_v hR.1) ?_
    refine v_icmp_ge (tgt := 64) X dX4_mixDebts_14 (by decide) (fun hc => ?_) (fun hc => ?_)
    · exact absurd hc (nIge hi (N31 ho))
    refine v_iload X dX4_mixDebts_17 rfl ?_
    refine v_ico (v := 1) X dX4_mixDebts_19 (by decide) ?_
    refine v_iadd X dX4_mixDebts_20 ?_
    refine vV.top (congrArg Value.int (nI_1 i)) ?_
    refine v_istore6 X rfl (Nat.le_of_ble_eq_true rfl) dX4_mixDebts_21 ?_
    refine loop_up (fun j d => mixA d (debtS (nI i) (nI j) S)) (fun j d => vV p l e (rmv 2 46) s m ([.ref (ad 0), .long d0] : List Value).toArray below meth c 7 z0 D 0 0 Q n ad (gV cy ad 4 S g0) 23 [some (.ref (ad 0)), some (.long d0), none, some (.long d), none, some (.int (nI i)), some (.int (nI j))] []) (sN S) ?_ (sN S - (i + 1)) (i + 1) d (by omega) ?_
    · intro j d hj hk2
      refine v_iload X dX4_mixDebts_23 rfl ?_
      refine v_aload0 X dX4_mixDebts_25 rfl ?_
      refine gf_X4_21 X dX4_mixDebts_26 hR.v.2 ?_
      refine gf_X4_47 X dX4_mixDebts_29 (gV_v hR.1) ?_
      refine v_icmp_ge (tgt := 58) X dX4_mixDebts_32 (by decide) (fun hc2 => ?_) (fun hc2 => ?_)
      · exact absurd hc2 (nIge hj (N31 ho))
      refine v_lload3 X dX4_mixDebts_35 rfl ?_
      refine v_aload0 X dX4_mixDebts_36 rfl ?_
      refine gf_X4_21 X dX4_mixDebts_37 hR.v.2 ?_
      refine v_iload X dX4_mixDebts_40 rfl ?_
      refine v_iload X dX4_mixDebts_42 rfl ?_
      refine cd_X4_119 X dX4_mixDebts_44 (c_X2_debt l hR.1 ho) (gV_v hR.1) rfl (Nat.le_of_ble_eq_true rfl) ⟨(Nat.le_of_ble_eq_true rfl), (Nat.le_of_ble_eq_true rfl), (Nat.le_of_ble_eq_true rfl), (Nat.le_of_ble_eq_true rfl)⟩ ?_
      refine v_i2l X dX4_mixDebts_47 ?_
      refine cd_X4_153 X dX4_mixDebts_48 (c_mix l) (Nat.le_of_ble_eq_true rfl) ⟨(Nat.le_of_ble_eq_true rfl), (Nat.le_of_ble_eq_true rfl), (Nat.le_of_ble_eq_true rfl), (Nat.le_of_ble_eq_true rfl)⟩ ?_
      refine v_lstore3 X rfl (Nat.le_of_ble_eq_true rfl) dX4_mixDebts_51 ?_
      refine v_iinc6 (v := nI (j + 1)) X rfl (Nat.le_of_ble_eq_true rfl) dX4_mixDebts_52 (nI_inc j) ?_
      refine v_goto (tgt := 23) X dX4_mixDebts_55 (by decide) ?_
      exact hk2
    · refine v_iload X dX4_mixDebts_23 rfl ?_
      refine v_aload0 X dX4_mixDebts_25 rfl ?_
      refine gf_X4_21 X dX4_mixDebts_26 hR.v.2 ?_
      refine gf_X4_47 X dX4_mixDebts_29 (gV_v hR.1) ?_
      refine v_icmp_ge (tgt := 58) X dX4_mixDebts_32 (by decide) (fun hc2 => ?_) (fun hc2 => ?_)
      · refine v_iinc5 (v := nI (i + 1)) X rfl (Nat.le_of_ble_eq_true rfl) dX4_mixDebts_58 (nI_inc i) ?_
        refine v_goto (tgt := 5) X dX4_mixDebts_61 (by decide) ?_
        exact vV.le (A := [some (.ref (ad 0)), some (.long d0), none, some (.long _), none, some (.int (nI (i + 1))), none]) ⟨rfl, rfl, rfl, rfl, trivial⟩ hk
      exact absurd (Int32.le_refl _) hc2
  · refine v_iload X dX4_mixDebts_5 rfl ?_
    refine v_aload0 X dX4_mixDebts_7 rfl ?_
    refine gf_X4_21 X dX4_mixDebts_8 hR.v.2 ?_
    refine gf_X4_47 X dX4_mixDebts_11 (gV_v hR.1) ?_
    refine v_icmp_ge (tgt := 64) X dX4_mixDebts_14 (by decide) (fun hc => ?_) (fun hc => ?_)
    · refine v_lload3 X dX4_mixDebts_64 rfl ?_
      rw [← hQ]
      exact v_lret X hr hlk dX4_mixDebts_65 ⟨rfl, rfl, rfl, rfl⟩
    exact absurd (Int32.le_refl _) hc
set_option maxRecDepth 100000 in
set_option maxHeartbeats 4000000 in
theorem c_digest (l : Launch) {z0 n : Nat} {D : va_G} {cy : Nat → ClassId} {ad : Nat → Nat} {S : tS} {g0 : Nat → va_E} {ra le : Nat → Int32} (hR : RO ad n g0) (ho : ok S) (hw : WX cy ad n g0 ra le) : Ct0 l yX4_digest cX4_digest 4 (some FieldType.long) 3 72 z0 D cy n ad (gV cy ad 4 S g0) [.ref (ad 0)] (some (.long (digA ra le S))) (gV cy ad 4 S g0) := by
  refine ct_of (by decide +kernel) 3 [some (.ref (ad 0)), none, none, none] (Nat.le_of_ble_eq_true rfl) rfl ?_
  intro p e s m below meth c X hr hlk hnm
  generalize hQ : MQ below (QcR z0 D (isR (some (.long (digA ra le S))) n ad (gV cy ad 4 S g0))) ([.ref (ad 0)] : List Value).toArray s 0 0 (fun q => z0 ≤ q) = Q
  refine v_ldc2 X dX4_digest_0 wq_X4_151 ?_
  refine v_lstore1 X rfl (Nat.le_of_ble_eq_true rfl) dX4_digest_3 ?_
  refine v_ico (v := 0) X dX4_digest_4 (by decide) ?_
  refine v_istore3 X rfl (Nat.le_of_ble_eq_true rfl) dX4_digest_5 ?_
  refine loop_up (fun j d => mixA d (totalS S j)) (fun j d => vV p l e (rmv 3 72) s m ([.ref (ad 0)] : List Value).toArray below meth c 4 z0 D 0 0 Q n ad (gV cy ad 4 S g0) 6 [some (.ref (ad 0)), some (.long d), none, some (.int (nI j))] []) 11 ?_ 11 0 673 (Nat.zero_add _) ?_
  · intro j d hj hk
    refine v_iload3 X dX4_digest_6 rfl ?_
    refine v_bip (v := 11) X dX4_digest_7 (by decide) ?_
    refine v_icmp_ge (tgt := 32) X dX4_digest_9 (by decide) (fun hc => ?_) (fun hc => ?_)
    · exact absurd hc (nIge (N := 11) hj (by decide))
    refine v_lload1 X dX4_digest_12 rfl ?_
    refine v_aload0 X dX4_digest_13 rfl ?_
    refine gf_X4_21 X dX4_digest_14 hR.v.2 ?_
    refine v_iload3 X dX4_digest_17 rfl ?_
    refine cd_X4_125 X dX4_digest_18 (c_X2_total l hj hR.1 ho) (gV_v hR.1) rfl (Nat.le_of_ble_eq_true rfl) ⟨(Nat.le_of_ble_eq_true rfl), (Nat.le_of_ble_eq_true rfl), (Nat.le_of_ble_eq_true rfl), (Nat.le_of_ble_eq_true rfl)⟩ ?_
    refine v_i2l X dX4_digest_21 ?_
    refine cd_X4_153 X dX4_digest_22 (c_mix l) (Nat.le_of_ble_eq_true rfl) ⟨(Nat.le_of_ble_eq_true rfl), (Nat.le_of_ble_eq_true rfl), (Nat.le_of_ble_eq_true rfl), (Nat.le_of_ble_eq_true rfl)⟩ ?_
    refine v_lstore1 X rfl (Nat.le_of_ble_eq_true rfl) dX4_digest_25 ?_
    refine v_iinc3 (v := nI (j + 1)) X rfl (Nat.le_of_ble_eq_true rfl) dX4_digest_26 (nI_inc j) ?_
    refine v_goto (tgt := 6) X dX4_digest_29 (by decide) ?_
    exact hk
  refine v_iload3 X dX4_digest_6 rfl ?_
  refine v_bip (v := 11) X dX4_digest_7 (by decide) ?_
  refine v_icmp_ge (tgt := 32) X dX4_digest_9 (by decide) (fun hc => ?_) (fun hc => ?_)
  · refine v_ico (v := 0) X dX4_digest_32 (by decide) ?_
    refine v_istore3 X rfl (Nat.le_of_ble_eq_true rfl) dX4_digest_33 ?_
    refine loop_up (fun j d => mixA d (10 * ra j + le j)) (fun j d => vV p l e (rmv 3 72) s m ([.ref (ad 0)] : List Value).toArray below meth c 4 z0 D 0 0 Q n ad (gV cy ad 4 S g0) 34 [some (.ref (ad 0)), some (.long d), none, some (.int (nI j))] []) 28 ?_ 28 0 _ (Nat.zero_add _) ?_
    · intro j d hj hk
      refine v_iload3 X dX4_digest_34 rfl ?_
      refine v_bip (v := 28) X dX4_digest_35 (by decide) ?_
      refine v_icmp_ge (tgt := 60) X dX4_digest_37 (by decide) (fun hc3 => ?_) (fun hc3 => ?_)
      · exact absurd hc3 (nIge (N := 28) hj (by decide))
      refine v_lload1 X dX4_digest_40 rfl ?_
      refine v_aload0 X dX4_digest_41 rfl ?_
      refine gf_X4_10 X dX4_digest_42 hR.v.2 ?_
      refine v_iload3 X dX4_digest_45 rfl ?_
      refine cd_X4_39 X dX4_digest_46 (c_X3_code l (gV_W (by omega) hw) hj) (gV_W (by omega) hw).1 rfl (Nat.le_of_ble_eq_true rfl) ⟨(Nat.le_of_ble_eq_true rfl), (Nat.le_of_ble_eq_true rfl), (Nat.le_of_ble_eq_true rfl), (Nat.le_of_ble_eq_true rfl)⟩ ?_
      refine v_i2l X dX4_digest_49 ?_
      refine cd_X4_153 X dX4_digest_50 (c_mix l) (Nat.le_of_ble_eq_true rfl) ⟨(Nat.le_of_ble_eq_true rfl), (Nat.le_of_ble_eq_true rfl), (Nat.le_of_ble_eq_true rfl), (Nat.le_of_ble_eq_true rfl)⟩ ?_
      refine v_lstore1 X rfl (Nat.le_of_ble_eq_true rfl) dX4_digest_53 ?_
      refine v_iinc3 (v := nI (j + 1)) X rfl (Nat.le_of_ble_eq_true rfl) dX4_digest_54 (nI_inc j) ?_
      refine v_goto (tgt := 34) X dX4_digest_57 (by decide) ?_
      exact hk
    refine v_iload3 X dX4_digest_34 rfl ?_
    refine v_bip (v := 28) X dX4_digest_35 (by decide) ?_
    refine v_icmp_ge (tgt := 60) X dX4_digest_37 (by decide) (fun hc3 => ?_) (fun hc3 => ?_)
    · refine v_aload0 X dX4_digest_60 rfl ?_
      refine v_lload1 X dX4_digest_61 rfl ?_
      refine cd_X4_157 X dX4_digest_62 (c_mixHouses l hR ho) hR.v.2 rfl (Nat.le_of_ble_eq_true rfl) ⟨(Nat.le_of_ble_eq_true rfl), (Nat.le_of_ble_eq_true rfl), (Nat.le_of_ble_eq_true rfl), (Nat.le_of_ble_eq_true rfl)⟩ ?_
      refine v_lstore1 X rfl (Nat.le_of_ble_eq_true rfl) dX4_digest_65 ?_
      refine v_aload0 X dX4_digest_66 rfl ?_
      refine v_lload1 X dX4_digest_67 rfl ?_
      refine cd_X4_161 X dX4_digest_68 (c_mixPipes l hR ho) hR.v.2 rfl (Nat.le_of_ble_eq_true rfl) ⟨(Nat.le_of_ble_eq_true rfl), (Nat.le_of_ble_eq_true rfl), (Nat.le_of_ble_eq_true rfl), (Nat.le_of_ble_eq_true rfl)⟩ ?_
      refine v_lstore1 X rfl (Nat.le_of_ble_eq_true rfl) dX4_digest_71 ?_
      refine v_aload0 X dX4_digest_72 rfl ?_
      refine v_lload1 X dX4_digest_73 rfl ?_
      refine cd_X4_164 X dX4_digest_74 (c_mixDebts l hR ho) hR.v.2 rfl (Nat.le_of_ble_eq_true rfl) ⟨(Nat.le_of_ble_eq_true rfl), (Nat.le_of_ble_eq_true rfl), (Nat.le_of_ble_eq_true rfl), (Nat.le_of_ble_eq_true rfl)⟩ ?_
      rw [← hQ]
      exact v_lret X hr hlk dX4_digest_77 ⟨rfl, rfl, rfl, rfl⟩
    exact absurd (Int32.le_refl _) hc3
  exact absurd (Int32.le_refl _) hc
