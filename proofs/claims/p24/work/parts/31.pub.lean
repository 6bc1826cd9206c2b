/-! more public methods -/
def chT (h : Nat) (o : Int32) (S : tS) : tS := setH S (va_up (sH S) h (upd (sH S h) 6 o))
set_option maxRecDepth 100000 in
set_option maxHeartbeats 4000000 in
theorem c_chain (l : Launch) {z0 n : Nat} {D : va_G} {cy : Nat → ClassId} {ad : Nat → Nat} {S : tS} {g0 : Nat → va_E} {h k : Nat} {o : Int32} (hR : RO ad n g0) (ho : ok S) (hh : h < sN S) (h2 : o = -1 ∨ hasB (sN S) o = 1) (h3 : nI h ≠ o) (ht : Ter (sN S) (sH S) k o) (h4 : thru k (sH S) o (nI h) = false) (ho' : ok (chT h o S)) (ht' : Ter (sN S) (sH (chT h o S)) k o) : Ct0 l yX4_chain cX4_chain 3 (some FieldType.int) 7 121 z0 D cy n ad (gV cy ad 4 S g0) [.ref (ad 0), .int (nI h), .int o] (some (.int (nI k))) (gV cy ad 4 (chT h o S) g0) := by
  refine ct_of (by decide +kernel) 0 [some (.ref (ad 0)), some (.int (nI h)), some (.int o)] (Nat.le_of_ble_eq_true rfl) rfl ?_
  intro p e s m below meth c X hr hlk hnm
  generalize hQ : MQ below (QcR z0 D (isR (some (.int (nI k))) n ad (gV cy ad 4 (chT h o S) g0))) ([.ref (ad 0), .int (nI h), .int o] : List Value).toArray s 0 0 (fun q => z0 ≤ q) = Q
  have hA : vV p l e (rmv 7 121) s m ([.ref (ad 0), .int (nI h), .int o] : List Value).toArray below meth c 3 z0 D 0 0 Q n ad (gV cy ad 4 S g0) 26 [some (.ref (ad 0)), some (.int (nI h)), some (.int o)] [.int 1] := by
    refine cd_X4_32 X dX4_chain_26 (c_needIndex l (by decide)) (Nat.le_of_ble_eq_true rfl) ⟨(Nat.le_of_ble_eq_true rfl), (Nat.le_of_ble_eq_true rfl), (Nat.le_of_ble_eq_true rfl), (Nat.le_of_ble_eq_true rfl)⟩ ?_
    refine v_iload1 X dX4_chain_29 rfl ?_
    refine v_iload2 X dX4_chain_30 rfl ?_
    refine v_icmp_eq (tgt := 38) X dX4_chain_31 (by decide) (fun hb => ?_) (fun hb => ?_)
    · exact absurd hb h3
    refine v_ico (v := 1) X dX4_chain_34 (by decide) ?_
    refine v_goto (tgt := 39) X dX4_chain_35 (by decide) ?_
    refine cd_X4_36 X dX4_chain_39 (c_needArgument l (by decide)) (Nat.le_of_ble_eq_true rfl) ⟨(Nat.le_of_ble_eq_true rfl), (Nat.le_of_ble_eq_true rfl), (Nat.le_of_ble_eq_true rfl), (Nat.le_of_ble_eq_true rfl)⟩ ?_
    refine v_aload0 X dX4_chain_42 rfl ?_
    refine gf_X4_21 X dX4_chain_43 hR.v.2 ?_
    refine v_iload2 X dX4_chain_46 rfl ?_
    refine v_iload1 X dX4_chain_47 rfl ?_
    refine cd_X4_66 X dX4_chain_48 (c_X2_flowsThrough l hR.1 ho ht) (gV_v hR.1) rfl (Nat.le_of_ble_eq_true rfl) ⟨(Nat.le_of_ble_eq_true rfl), (Nat.le_of_ble_eq_true rfl), (Nat.le_of_ble_eq_true rfl), (Nat.le_of_ble_eq_true rfl)⟩ ?_
    refine v_if_ne (tgt := 58) X dX4_chain_51 (by decide) (fun hb => ?_) (fun hb => ?_)
    · rw [h4] at hb
      exact absurd rfl hb
    refine v_ico (v := 1) X dX4_chain_54 (by decide) ?_
    refine v_goto (tgt := 59) X dX4_chain_55 (by decide) ?_
    refine cd_X4_51 X dX4_chain_59 (c_needState l (by decide)) (Nat.le_of_ble_eq_true rfl) ⟨(Nat.le_of_ble_eq_true rfl), (Nat.le_of_ble_eq_true rfl), (Nat.le_of_ble_eq_true rfl), (Nat.le_of_ble_eq_true rfl)⟩ ?_
    refine v_aload0 X dX4_chain_62 rfl ?_
    refine gf_X4_21 X dX4_chain_63 hR.v.2 ?_
    refine gf_X4_70 X dX4_chain_66 (gV_v hR.1) ?_
    refine v_iload1 X dX4_chain_69 rfl ?_
    refine v_aaldH X dX4_chain_70 (gV_ha hR.1) rfl (le10 ho hh) ?_
    refine v_iload2 X dX4_chain_71 rfl ?_
    refine pf_X4_74 X dX4_chain_72 (gV_h hR.1 ho.1 hh) ?_
    refine vV.gg (gV_upH (f := upd (sH S h) 6 o) ho.1 hh) ?_
    refine v_aload0 X dX4_chain_75 rfl ?_
    refine gf_X4_21 X dX4_chain_76 hR.v.2 ?_
    refine v_iload2 X dX4_chain_79 rfl ?_
    refine cd_X4_79 X dX4_chain_80 (c_X2_chainLength l hR.1 ho' ht') (gV_v hR.1) rfl (Nat.le_of_ble_eq_true rfl) ⟨(Nat.le_of_ble_eq_true rfl), (Nat.le_of_ble_eq_true rfl), (Nat.le_of_ble_eq_true rfl), (Nat.le_of_ble_eq_true rfl)⟩ ?_
    rw [← hQ]
    exact v_iret X hr hlk dX4_chain_83 ⟨rfl, rfl, rfl, rfl⟩
  refine v_aload0 X dX4_chain_0 rfl ?_
  refine v_iload1 X dX4_chain_1 rfl ?_
  refine cd_X4_58 X dX4_chain_2 (c_needHouse l hR.v (hasB_1 hh (by have := ho.1; omega))) hR.v.2 rfl (Nat.le_of_ble_eq_true rfl) ⟨(Nat.le_of_ble_eq_true rfl), (Nat.le_of_ble_eq_true rfl), (Nat.le_of_ble_eq_true rfl), (Nat.le_of_ble_eq_true rfl)⟩ ?_
  refine v_iload2 X dX4_chain_5 rfl ?_
  refine v_ico (v := -1) X dX4_chain_6 (by decide) ?_
  refine v_icmp_eq (tgt := 21) X dX4_chain_7 (by decide) (fun hb => ?_) (fun hb => ?_)
  · refine v_ico (v := 1) X dX4_chain_21 (by decide) ?_
    refine v_goto (tgt := 26) X dX4_chain_22 (by decide) ?_
    exact hA
  refine v_aload0 X dX4_chain_10 rfl ?_
  refine gf_X4_21 X dX4_chain_11 hR.v.2 ?_
  refine v_iload2 X dX4_chain_14 rfl ?_
  refine cd_X4_62 X dX4_chain_15 (c_X2_hasHouse l hR.1) (gV_v hR.1) rfl (Nat.le_of_ble_eq_true rfl) ⟨(Nat.le_of_ble_eq_true rfl), (Nat.le_of_ble_eq_true rfl), (Nat.le_of_ble_eq_true rfl), (Nat.le_of_ble_eq_true rfl)⟩ ?_
  refine v_if_eq (tgt := 25) X dX4_chain_18 (by decide) (fun hc => ?_) (fun hc => ?_)
  · rcases h2 with h2 | h2
    · exact absurd h2 hb
    · rw [h2] at hc
      exact absurd hc (by decide)
  refine v_ico (v := 1) X dX4_chain_21 (by decide) ?_
  refine v_goto (tgt := 26) X dX4_chain_22 (by decide) ?_
  exact hA
set_option maxRecDepth 100000 in
set_option maxHeartbeats 4000000 in
theorem c_lay (l : Launch) {z0 n : Nat} {D : va_G} {cy : Nat → ClassId} {ad : Nat → Nat} {S : tS} {g0 : Nat → va_E} {a b : Nat} {v : Int32} (hR : RO ad n g0) (ho : ok S) (ha : a < sN S) (hb' : b < sN S) (hab : a ≠ b) (hv : IN v 1 50) (hP : sP S < 12) (hf : vAt n g0 (4 + 13 + sP S) (cP dfQ)) : Ct0 l yX4_lay cX4_lay 4 (some FieldType.int) 7 121 z0 D cy n ad (gV cy ad 4 S g0) [.ref (ad 0), .int (nI a), .int (nI b), .int v] (some (.int (nI (sP S)))) (gV cy ad 4 (layT (nI a) (nI b) v S) g0) := by
  refine ct_of (by decide +kernel) 0 [some (.ref (ad 0)), some (.int (nI a)), some (.int (nI b)), some (.int v)] (Nat.le_of_ble_eq_true rfl) rfl ?_
  intro p e s m below meth c X hr hlk hnm
  have hN := ho.1
  refine v_aload0 X dX4_lay_0 rfl ?_
  refine v_iload1 X dX4_lay_1 rfl ?_
  refine cd_X4_58 X dX4_lay_2 (c_needHouse l hR.v (hasB_1 ha (by have := ho.1; omega))) hR.v.2 rfl (Nat.le_of_ble_eq_true rfl) ⟨(Nat.le_of_ble_eq_true rfl), (Nat.le_of_ble_eq_true rfl), (Nat.le_of_ble_eq_true rfl), (Nat.le_of_ble_eq_true rfl)⟩ ?_
  refine v_aload0 X dX4_lay_5 rfl ?_
  refine v_iload2 X dX4_lay_6 rfl ?_
  refine cd_X4_58 X dX4_lay_7 (c_needHouse l hR.v (hasB_1 hb' (by have := ho.1; omega))) hR.v.2 rfl (Nat.le_of_ble_eq_true rfl) ⟨(Nat.le_of_ble_eq_true rfl), (Nat.le_of_ble_eq_true rfl), (Nat.le_of_ble_eq_true rfl), (Nat.le_of_ble_eq_true rfl)⟩ ?_
  refine v_iload1 X dX4_lay_10 rfl ?_
  refine v_iload2 X dX4_lay_11 rfl ?_
  refine v_icmp_eq (tgt := 29) X dX4_lay_12 (by decide) (fun hb => ?_) (fun hb => ?_)
  · exact absurd (nI_inj (by omega) (by omega) hb) hab
  refine v_iload3 X dX4_lay_15 rfl ?_
  refine v_ico (v := 1) X dX4_lay_16 (by decide) ?_
  refine v_bip (v := 50) X dX4_lay_17 (by decide) ?_
  refine cd_X4_28 X dX4_lay_19 (c_isWithin l) (Nat.le_of_ble_eq_true rfl) ⟨(Nat.le_of_ble_eq_true rfl), (Nat.le_of_ble_eq_true rfl), (Nat.le_of_ble_eq_true rfl), (Nat.le_of_ble_eq_true rfl)⟩ ?_
  refine v_if_eq (tgt := 29) X dX4_lay_22 (by decide) (fun hb => ?_) (fun hb => ?_)
  · exact absurd hb (inB_ne hv)
  refine v_ico (v := 1) X dX4_lay_25 (by decide) ?_
  refine v_goto (tgt := 30) X dX4_lay_26 (by decide) ?_
  refine cd_X4_36 X dX4_lay_30 (c_needArgument l (by decide)) (Nat.le_of_ble_eq_true rfl) ⟨(Nat.le_of_ble_eq_true rfl), (Nat.le_of_ble_eq_true rfl), (Nat.le_of_ble_eq_true rfl), (Nat.le_of_ble_eq_true rfl)⟩ ?_
  refine v_aload0 X dX4_lay_33 rfl ?_
  refine gf_X4_21 X dX4_lay_34 hR.v.2 ?_
  refine gf_X4_82 X dX4_lay_37 (gV_v hR.1) ?_
  refine v_bip (v := 12) X dX4_lay_40 (by decide) ?_
  refine v_icmp_ge (tgt := 49) X dX4_lay_42 (by decide) (fun hb => ?_) (fun hb => ?_)
  · exact absurd hb (nIge (N := 12) hP (by decide))
  refine v_ico (v := 1) X dX4_lay_45 (by decide) ?_
  refine v_goto (tgt := 50) X dX4_lay_46 (by decide) ?_
  refine cd_X4_51 X dX4_lay_50 (c_needState l (by decide)) (Nat.le_of_ble_eq_true rfl) ⟨(Nat.le_of_ble_eq_true rfl), (Nat.le_of_ble_eq_true rfl), (Nat.le_of_ble_eq_true rfl), (Nat.le_of_ble_eq_true rfl)⟩ ?_
  refine v_aload0 X dX4_lay_53 rfl ?_
  refine gf_X4_21 X dX4_lay_54 hR.v.2 ?_
  refine v_iload1 X dX4_lay_57 rfl ?_
  refine v_iload2 X dX4_lay_58 rfl ?_
  refine v_iload3 X dX4_lay_59 rfl ?_
  refine cd_X4_85 X dX4_lay_60 (c_X2_addPipe l hR.1 ho hP hf) (gV_v hR.1) rfl (Nat.le_of_ble_eq_true rfl) ⟨(Nat.le_of_ble_eq_true rfl), (Nat.le_of_ble_eq_true rfl), (Nat.le_of_ble_eq_true rfl), (Nat.le_of_ble_eq_true rfl)⟩ ?_
  exact v_iret X hr hlk dX4_lay_63 ⟨rfl, rfl, rfl, rfl⟩
def tuT (j : Nat) (b : Int32) (S : tS) : tS := setQ S (va_up (sQ S) j (upd (sQ S j) 3 b))
set_option maxRecDepth 100000 in
set_option maxHeartbeats 4000000 in
theorem c_turn (l : Launch) {z0 n : Nat} {D : va_G} {cy : Nat → ClassId} {ad : Nat → Nat} {S : tS} {g0 : Nat → va_E} {j : Nat} {b : Int32} (hR : RO ad n g0) (ho : ok S) (hj : j < sP S) (hb : isB b) : Ct0 l yX4_turn cX4_turn 4 (some FieldType.boolean) 7 121 z0 D cy n ad (gV cy ad 4 S g0) [.ref (ad 0), .int (nI j), .int b] (some (.int (sQ S j 3))) (gV cy ad 4 (tuT j b S) g0) := by
  refine ct_of (by decide +kernel) 1 [some (.ref (ad 0)), some (.int (nI j)), some (.int b), none] (Nat.le_of_ble_eq_true rfl) rfl ?_
  intro p e s m below meth c X hr hlk hnm
  refine v_aload0 X dX4_turn_0 rfl ?_
  refine v_iload1 X dX4_turn_1 rfl ?_
  refine cd_X4_89 X dX4_turn_2 (c_needPipe l hR.v (hasB_1 hj (by have := ho.2.1; omega))) hR.v.2 rfl (Nat.le_of_ble_eq_true rfl) ⟨(Nat.le_of_ble_eq_true rfl), (Nat.le_of_ble_eq_true rfl), (Nat.le_of_ble_eq_true rfl), (Nat.le_of_ble_eq_true rfl)⟩ ?_
  refine v_aload0 X dX4_turn_5 rfl ?_
  refine gf_X4_21 X dX4_turn_6 hR.v.2 ?_
  refine gf_X4_92 X dX4_turn_9 (gV_v hR.1) ?_
  refine v_iload1 X dX4_turn_12 rfl ?_
  refine v_aaldP X dX4_turn_13 (gV_pa hR.1) rfl (le12 ho hj) ?_
  refine gf_X4_96 X dX4_turn_14 (gV_p hR.1 ho.1 ho.2.1 hj) ?_
  refine v_istore3 X rfl (Nat.le_of_ble_eq_true rfl) dX4_turn_17 ?_
  refine v_aload0 X dX4_turn_18 rfl ?_
  refine gf_X4_21 X dX4_turn_19 hR.v.2 ?_
  refine gf_X4_92 X dX4_turn_22 (gV_v hR.1) ?_
  refine v_iload1 X dX4_turn_25 rfl ?_
  refine v_aaldP X dX4_turn_26 (gV_pa hR.1) rfl (le12 ho hj) ?_
  refine v_iload2 X dX4_turn_27 rfl ?_
  refine pf_X4_96 X dX4_turn_28 (isB_n hb) (isB_f hb) (gV_p hR.1 ho.1 ho.2.1 hj) ?_
  refine vV.gg (gV_upP (f := upd (sQ S j) 3 b) ho.1 ho.2.1 hj) ?_
  refine v_iload3 X dX4_turn_31 rfl ?_
  exact v_zret X hr hlk dX4_turn_32 (isB_n (okQ_ends ho hj).2.2.2.2.2.2.2) ⟨rfl, rfl, rfl, rfl⟩
def clT (h : Nat) (S : tS) : tS := setH S (va_up (sH S) h (upd (sH S h) 5 0))
set_option maxRecDepth 100000 in
set_option maxHeartbeats 4000000 in
theorem c_clean (l : Launch) {z0 n : Nat} {D : va_G} {cy : Nat → ClassId} {ad : Nat → Nat} {S : tS} {g0 : Nat → va_E} {h : Nat} (hR : RO ad n g0) (ho : ok S) (hh : h < sN S) : Ct0 l yX4_clean cX4_clean 3 (some FieldType.int) 7 121 z0 D cy n ad (gV cy ad 4 S g0) [.ref (ad 0), .int (nI h)] (some (.int (sH S h 5))) (gV cy ad 4 (clT h S) g0) := by
  refine ct_of (by decide +kernel) 1 [some (.ref (ad 0)), some (.int (nI h)), none] (Nat.le_of_ble_eq_true rfl) rfl ?_
  intro p e s m below meth c X hr hlk hnm
  refine v_aload0 X dX4_clean_0 rfl ?_
  refine v_iload1 X dX4_clean_1 rfl ?_
  refine cd_X4_58 X dX4_clean_2 (c_needHouse l hR.v (hasB_1 hh (by have := ho.1; omega))) hR.v.2 rfl (Nat.le_of_ble_eq_true rfl) ⟨(Nat.le_of_ble_eq_true rfl), (Nat.le_of_ble_eq_true rfl), (Nat.le_of_ble_eq_true rfl), (Nat.le_of_ble_eq_true rfl)⟩ ?_
  refine v_aload0 X dX4_clean_5 rfl ?_
  refine gf_X4_21 X dX4_clean_6 hR.v.2 ?_
  refine gf_X4_70 X dX4_clean_9 (gV_v hR.1) ?_
  refine v_iload1 X dX4_clean_12 rfl ?_
  refine v_aaldH X dX4_clean_13 (gV_ha hR.1) rfl (le10 ho hh) ?_
  refine gf_X4_102 X dX4_clean_14 (gV_h hR.1 ho.1 hh) ?_
  refine v_istore2 X rfl (Nat.le_of_ble_eq_true rfl) dX4_clean_17 ?_
  refine v_aload0 X dX4_clean_18 rfl ?_
  refine gf_X4_21 X dX4_clean_19 hR.v.2 ?_
  refine gf_X4_70 X dX4_clean_22 (gV_v hR.1) ?_
  refine v_iload1 X dX4_clean_25 rfl ?_
  refine v_aaldH X dX4_clean_26 (gV_ha hR.1) rfl (le10 ho hh) ?_
  refine v_ico (v := 0) X dX4_clean_27 (by decide) ?_
  refine pf_X4_102 X dX4_clean_28 (gV_h hR.1 ho.1 hh) ?_
  refine vV.gg (gV_upH (f := upd (sH S h) 5 0) ho.1 hh) ?_
  refine v_iload2 X dX4_clean_31 rfl ?_
  exact v_iret X hr hlk dX4_clean_32 ⟨rfl, rfl, rfl, rfl⟩
def caT (w : Int32) (S : tS) : tS := setM S (upd (sM S) 4 (sM S 4 + w))
set_option maxRecDepth 100000 in
set_option maxHeartbeats 4000000 in
theorem c_cart (l : Launch) {z0 n : Nat} {D : va_G} {cy : Nat → ClassId} {ad : Nat → Nat} {S : tS} {g0 : Nat → va_E} {h : Nat} {w : Int32} (hR : RO ad n g0) (ho : ok S) (hh : h < sN S) (hw : IN w 1 500) : Ct0 l yX4_cart cX4_cart 3 (some FieldType.int) 7 121 z0 D cy n ad (gV cy ad 4 S g0) [.ref (ad 0), .int (nI h), .int w] (some (.int (pourA (caT w S) (nI h) w))) (gV cy ad 4 (pourT (caT w S) (nI h) w) g0) := by
  refine ct_of (by decide +kernel) 0 [some (.ref (ad 0)), some (.int (nI h)), some (.int w)] (Nat.le_of_ble_eq_true rfl) rfl ?_
  intro p e s m below meth c X hr hlk hnm
  obtain ⟨k, -, hk⟩ := ok_ter ho hh
  refine v_aload0 X dX4_cart_0 rfl ?_
  refine v_iload1 X dX4_cart_1 rfl ?_
  refine cd_X4_58 X dX4_cart_2 (c_needHouse l hR.v (hasB_1 hh (by have := ho.1; omega))) hR.v.2 rfl (Nat.le_of_ble_eq_true rfl) ⟨(Nat.le_of_ble_eq_true rfl), (Nat.le_of_ble_eq_true rfl), (Nat.le_of_ble_eq_true rfl), (Nat.le_of_ble_eq_true rfl)⟩ ?_
  refine v_iload2 X dX4_cart_5 rfl ?_
  refine v_ico (v := 1) X dX4_cart_6 (by decide) ?_
  refine v_sip (v := 500) X dX4_cart_7 (by decide) ?_
  refine cd_X4_28 X dX4_cart_10 (c_isWithin l) (Nat.le_of_ble_eq_true rfl) ⟨(Nat.le_of_ble_eq_true rfl), (Nat.le_of_ble_eq_true rfl), (Nat.le_of_ble_eq_true rfl), (Nat.le_of_ble_eq_true rfl)⟩ ?_
  refine cd_X4_36 X dX4_cart_13 (c_needArgument l (inB_ne hw)) (Nat.le_of_ble_eq_true rfl) ⟨(Nat.le_of_ble_eq_true rfl), (Nat.le_of_ble_eq_true rfl), (Nat.le_of_ble_eq_true rfl), (Nat.le_of_ble_eq_true rfl)⟩ ?_
  refine v_aload0 X dX4_cart_16 rfl ?_
  refine gf_X4_21 X dX4_cart_17 hR.v.2 ?_
  refine v_dup X dX4_cart_20 rfl ?_
  refine gf_X4_105 X dX4_cart_21 (gV_v hR.1) ?_
  refine v_iload2 X dX4_cart_24 rfl ?_
  refine v_iadd X dX4_cart_25 ?_
  refine pf_X4_105 X dX4_cart_26 (gV_v hR.1) ?_
  refine vV.gg (gV_upV (T := caT w S) rfl rfl rfl rfl) ?_
  refine v_aload0 X dX4_cart_29 rfl ?_
  refine gf_X4_21 X dX4_cart_30 hR.v.2 ?_
  refine v_iload1 X dX4_cart_33 rfl ?_
  refine v_iload2 X dX4_cart_34 rfl ?_
  refine cd_X4_108 X dX4_cart_35 (c_X2_pour l hR.1 (ok_M ho) hk) (gV_v hR.1) rfl (Nat.le_of_ble_eq_true rfl) ⟨(Nat.le_of_ble_eq_true rfl), (Nat.le_of_ble_eq_true rfl), (Nat.le_of_ble_eq_true rfl), (Nat.le_of_ble_eq_true rfl)⟩ ?_
  exact v_iret X hr hlk dX4_cart_38 ⟨rfl, rfl, rfl, rfl⟩
def peT (h : Nat) (w : Int32) (S : tS) : tS := setH S (va_up (sH S) h (upd (sH S h) 3 w))
set_option maxRecDepth 100000 in
set_option maxHeartbeats 4000000 in
theorem c_setPeople (l : Launch) {z0 n : Nat} {D : va_G} {cy : Nat → ClassId} {ad : Nat → Nat} {S : tS} {g0 : Nat → va_E} {h : Nat} {w : Int32} (hR : RO ad n g0) (ho : ok S) (hh : h < sN S) (hw : IN w 0 9) : Ct0 l yX4_setPeople cX4_setPeople 4 (some FieldType.int) 7 121 z0 D cy n ad (gV cy ad 4 S g0) [.ref (ad 0), .int (nI h), .int w] (some (.int (sH S h 3))) (gV cy ad 4 (peT h w S) g0) := by
  refine ct_of (by decide +kernel) 1 [some (.ref (ad 0)), some (.int (nI h)), some (.int w), none] (Nat.le_of_ble_eq_true rfl) rfl ?_
  intro p e s m below meth c X hr hlk hnm
  refine v_aload0 X dX4_setPeople_0 rfl ?_
  refine v_iload1 X dX4_setPeople_1 rfl ?_
  refine cd_X4_58 X dX4_setPeople_2 (c_needHouse l hR.v (hasB_1 hh (by have := ho.1; omega))) hR.v.2 rfl (Nat.le_of_ble_eq_true rfl) ⟨(Nat.le_of_ble_eq_true rfl), (Nat.le_of_ble_eq_true rfl), (Nat.le_of_ble_eq_true rfl), (Nat.le_of_ble_eq_true rfl)⟩ ?_
  refine v_iload2 X dX4_setPeople_5 rfl ?_
  refine v_ico (v := 0) X dX4_setPeople_6 (by decide) ?_
  refine v_bip (v := 9) X dX4_setPeople_7 (by decide) ?_
  refine cd_X4_28 X dX4_setPeople_9 (c_isWithin l) (Nat.le_of_ble_eq_true rfl) ⟨(Nat.le_of_ble_eq_true rfl), (Nat.le_of_ble_eq_true rfl), (Nat.le_of_ble_eq_true rfl), (Nat.le_of_ble_eq_true rfl)⟩ ?_
  refine cd_X4_36 X dX4_setPeople_12 (c_needArgument l (inB_ne hw)) (Nat.le_of_ble_eq_true rfl) ⟨(Nat.le_of_ble_eq_true rfl), (Nat.le_of_ble_eq_true rfl), (Nat.le_of_ble_eq_true rfl), (Nat.le_of_ble_eq_true rfl)⟩ ?_
  refine v_aload0 X dX4_setPeople_15 rfl ?_
  refine gf_X4_21 X dX4_setPeople_16 hR.v.2 ?_
  refine gf_X4_70 X dX4_setPeople_19 (gV_v hR.1) ?_
  refine v_iload1 X dX4_setPeople_22 rfl ?_
  refine v_aaldH X dX4_setPeople_23 (gV_ha hR.1) rfl (le10 ho hh) ?_
  refine gf_X4_112 X dX4_setPeople_24 (gV_h hR.1 ho.1 hh) ?_
  refine v_istore3 X rfl (Nat.le_of_ble_eq_true rfl) dX4_setPeople_27 ?_
  refine v_aload0 X dX4_setPeople_28 rfl ?_
  refine gf_X4_21 X dX4_setPeople_29 hR.v.2 ?_
  refine gf_X4_70 X dX4_setPeople_32 (gV_v hR.1) ?_
  refine v_iload1 X dX4_setPeople_35 rfl ?_
  refine v_aaldH X dX4_setPeople_36 (gV_ha hR.1) rfl (le10 ho hh) ?_
  refine v_iload2 X dX4_setPeople_37 rfl ?_
  refine pf_X4_112 X dX4_setPeople_38 (gV_h hR.1 ho.1 hh) ?_
  refine vV.gg (gV_upH (f := upd (sH S h) 3 w) ho.1 hh) ?_
  refine v_iload3 X dX4_setPeople_41 rfl ?_
  exact v_iret X hr hlk dX4_setPeople_42 ⟨rfl, rfl, rfl, rfl⟩
set_option maxRecDepth 100000 in
set_option maxHeartbeats 4000000 in
theorem c_house (l : Launch) {z0 n : Nat} {D : va_G} {cy : Nat → ClassId} {ad : Nat → Nat} {S : tS} {g0 : Nat → va_E} {h j : Nat} (hR : RO ad n g0) (ho : ok S) (hh : h < sN S) (hj : j < 10) (hw : IN (nI j) 0 9) : Ct0 l yX4_house cX4_house 3 (some FieldType.int) 7 121 z0 D cy n ad (gV cy ad 4 S g0) [.ref (ad 0), .int (nI h), .int (nI j)] (some (.int (sH S h j))) (gV cy ad 4 S g0) := by
  refine ct_of (by decide +kernel) 0 [some (.ref (ad 0)), some (.int (nI h)), some (.int (nI j))] (Nat.le_of_ble_eq_true rfl) rfl ?_
  intro p e s m below meth c X hr hlk hnm
  refine v_aload0 X dX4_house_0 rfl ?_
  refine v_iload1 X dX4_house_1 rfl ?_
  refine cd_X4_58 X dX4_house_2 (c_needHouse l hR.v (hasB_1 hh (by have := ho.1; omega))) hR.v.2 rfl (Nat.le_of_ble_eq_true rfl) ⟨(Nat.le_of_ble_eq_true rfl), (Nat.le_of_ble_eq_true rfl), (Nat.le_of_ble_eq_true rfl), (Nat.le_of_ble_eq_true rfl)⟩ ?_
  refine v_iload2 X dX4_house_5 rfl ?_
  refine v_ico (v := 0) X dX4_house_6 (by decide) ?_
  refine v_bip (v := 9) X dX4_house_7 (by decide) ?_
  refine cd_X4_28 X dX4_house_9 (c_isWithin l) (Nat.le_of_ble_eq_true rfl) ⟨(Nat.le_of_ble_eq_true rfl), (Nat.le_of_ble_eq_true rfl), (Nat.le_of_ble_eq_true rfl), (Nat.le_of_ble_eq_true rfl)⟩ ?_
  refine cd_X4_32 X dX4_house_12 (c_needIndex l (inB_ne hw)) (Nat.le_of_ble_eq_true rfl) ⟨(Nat.le_of_ble_eq_true rfl), (Nat.le_of_ble_eq_true rfl), (Nat.le_of_ble_eq_true rfl), (Nat.le_of_ble_eq_true rfl)⟩ ?_
  refine v_aload0 X dX4_house_15 rfl ?_
  refine gf_X4_21 X dX4_house_16 hR.v.2 ?_
  refine gf_X4_70 X dX4_house_19 (gV_v hR.1) ?_
  refine v_iload1 X dX4_house_22 rfl ?_
  refine v_aaldH X dX4_house_23 (gV_ha hR.1) rfl (le10 ho hh) ?_
  refine v_iload2 X dX4_house_24 rfl ?_
  refine cd_X4_115 X dX4_house_25 (c_X0_fact l hj (gV_h hR.1 ho.1 hh)) (gV_h hR.1 ho.1 hh) rfl (Nat.le_of_ble_eq_true rfl) ⟨(Nat.le_of_ble_eq_true rfl), (Nat.le_of_ble_eq_true rfl), (Nat.le_of_ble_eq_true rfl), (Nat.le_of_ble_eq_true rfl)⟩ ?_
  exact v_iret X hr hlk dX4_house_28 ⟨rfl, rfl, rfl, rfl⟩
set_option maxRecDepth 100000 in
set_option maxHeartbeats 4000000 in
theorem c_pipe (l : Launch) {z0 n : Nat} {D : va_G} {cy : Nat → ClassId} {ad : Nat → Nat} {S : tS} {g0 : Nat → va_E} {h j : Nat} (hR : RO ad n g0) (ho : ok S) (hh : h < sP S) (hj : j < 5) (hw : IN (nI j) 0 4) : Ct0 l yX4_pipe cX4_pipe 3 (some FieldType.int) 7 121 z0 D cy n ad (gV cy ad 4 S g0) [.ref (ad 0), .int (nI h), .int (nI j)] (some (.int (sQ S h j))) (gV cy ad 4 S g0) := by
  refine ct_of (by decide +kernel) 0 [some (.ref (ad 0)), some (.int (nI h)), some (.int (nI j))] (Nat.le_of_ble_eq_true rfl) rfl ?_
  intro p e s m below meth c X hr hlk hnm
  refine v_aload0 X dX4_pipe_0 rfl ?_
  refine v_iload1 X dX4_pipe_1 rfl ?_
  refine cd_X4_89 X dX4_pipe_2 (c_needPipe l hR.v (hasB_1 hh (by have := ho.2.1; omega))) hR.v.2 rfl (Nat.le_of_ble_eq_true rfl) ⟨(Nat.le_of_ble_eq_true rfl), (Nat.le_of_ble_eq_true rfl), (Nat.le_of_ble_eq_true rfl), (Nat.le_of_ble_eq_true rfl)⟩ ?_
  refine v_iload2 X dX4_pipe_5 rfl ?_
  refine v_ico (v := 0) X dX4_pipe_6 (by decide) ?_
  refine v_ico (v := 4) X dX4_pipe_7 (by decide) ?_
  refine cd_X4_28 X dX4_pipe_8 (c_isWithin l) (Nat.le_of_ble_eq_true rfl) ⟨(Nat.le_of_ble_eq_true rfl), (Nat.le_of_ble_eq_true rfl), (Nat.le_of_ble_eq_true rfl), (Nat.le_of_ble_eq_true rfl)⟩ ?_
  refine cd_X4_32 X dX4_pipe_11 (c_needIndex l (inB_ne hw)) (Nat.le_of_ble_eq_true rfl) ⟨(Nat.le_of_ble_eq_true rfl), (Nat.le_of_ble_eq_true rfl), (Nat.le_of_ble_eq_true rfl), (Nat.le_of_ble_eq_true rfl)⟩ ?_
  refine v_aload0 X dX4_pipe_14 rfl ?_
  refine gf_X4_21 X dX4_pipe_15 hR.v.2 ?_
  refine gf_X4_92 X dX4_pipe_18 (gV_v hR.1) ?_
  refine v_iload1 X dX4_pipe_21 rfl ?_
  refine v_aaldP X dX4_pipe_22 (gV_pa hR.1) rfl (le12 ho hh) ?_
  refine v_iload2 X dX4_pipe_23 rfl ?_
  refine cd_X4_118 X dX4_pipe_24 (c_X1_fact l hj (gV_p hR.1 ho.1 ho.2.1 hh) (okQ_ends ho hh).2.2.2.2.2.2.2) (gV_p hR.1 ho.1 ho.2.1 hh) rfl (Nat.le_of_ble_eq_true rfl) ⟨(Nat.le_of_ble_eq_true rfl), (Nat.le_of_ble_eq_true rfl), (Nat.le_of_ble_eq_true rfl), (Nat.le_of_ble_eq_true rfl)⟩ ?_
  exact v_iret X hr hlk dX4_pipe_27 ⟨rfl, rfl, rfl, rfl⟩
set_option maxRecDepth 100000 in
set_option maxHeartbeats 4000000 in
theorem c_owes (l : Launch) {z0 n : Nat} {D : va_G} {cy : Nat → ClassId} {ad : Nat → Nat} {S : tS} {g0 : Nat → va_E} {x y : Int32} (hR : RO ad n g0) (ho : ok S) (h1 : hasB (sN S) x = 1) (h2 : hasB (sN S) y = 1) : Ct0 l yX4_owes cX4_owes 3 (some FieldType.int) 7 121 z0 D cy n ad (gV cy ad 4 S g0) [.ref (ad 0), .int x, .int y] (some (.int (debtS x y S))) (gV cy ad 4 S g0) := by
  refine ct_of (by decide +kernel) 0 [some (.ref (ad 0)), some (.int x), some (.int y)] (Nat.le_of_ble_eq_true rfl) rfl ?_
  intro p e s m below meth c X hr hlk hnm
  refine v_aload0 X dX4_owes_0 rfl ?_
  refine v_iload1 X dX4_owes_1 rfl ?_
  refine cd_X4_58 X dX4_owes_2 (c_needHouse l hR.v h1) hR.v.2 rfl (Nat.le_of_ble_eq_true rfl) ⟨(Nat.le_of_ble_eq_true rfl), (Nat.le_of_ble_eq_true rfl), (Nat.le_of_ble_eq_true rfl), (Nat.le_of_ble_eq_true rfl)⟩ ?_
  refine v_aload0 X dX4_owes_5 rfl ?_
  refine v_iload2 X dX4_owes_6 rfl ?_
  refine cd_X4_58 X dX4_owes_7 (c_needHouse l hR.v h2) hR.v.2 rfl (Nat.le_of_ble_eq_true rfl) ⟨(Nat.le_of_ble_eq_true rfl), (Nat.le_of_ble_eq_true rfl), (Nat.le_of_ble_eq_true rfl), (Nat.le_of_ble_eq_true rfl)⟩ ?_
  refine v_aload0 X dX4_owes_10 rfl ?_
  refine gf_X4_21 X dX4_owes_11 hR.v.2 ?_
  refine v_iload1 X dX4_owes_14 rfl ?_
  refine v_iload2 X dX4_owes_15 rfl ?_
  refine cd_X4_119 X dX4_owes_16 (c_X2_debt l hR.1 ho) (gV_v hR.1) rfl (Nat.le_of_ble_eq_true rfl) ⟨(Nat.le_of_ble_eq_true rfl), (Nat.le_of_ble_eq_true rfl), (Nat.le_of_ble_eq_true rfl), (Nat.le_of_ble_eq_true rfl)⟩ ?_
  exact v_iret X hr hlk dX4_owes_19 ⟨rfl, rfl, rfl, rfl⟩
set_option maxRecDepth 100000 in
set_option maxHeartbeats 4000000 in
theorem c_pass (l : Launch) {z0 n : Nat} {D : va_G} {cy : Nat → ClassId} {ad : Nat → Nat} {S : tS} {g0 : Nat → va_E} {ra le : Nat → Int32} {d k : Nat} (hR : RO ad n g0) (ho : ok S) (hw : WX cy ad n g0 ra le) (hwk : wok ra le) (hd : sM S 0 = nI d) (hd2 : d + k < 2 ^ 31) (h1 : IN (nI k) 1 100) : Ct0 l yX4_pass cX4_pass 2 (some FieldType.int) 7 155 z0 D cy n ad (gV cy ad 4 S g0) [.ref (ad 0), .int (nI k)] (some (.int (sumS 7 (daysS ra le k S) - sumS 7 S))) (gV cy ad 4 (daysS ra le k S) g0) := by
  refine ct_of (by decide +kernel) 0 [some (.ref (ad 0)), some (.int (nI k))] (Nat.le_of_ble_eq_true rfl) rfl ?_
  intro p e s m below meth c X hr hlk hnm
  refine v_iload1 X dX4_pass_0 rfl ?_
  refine v_ico (v := 1) X dX4_pass_1 (by decide) ?_
  refine v_bip (v := 100) X dX4_pass_2 (by decide) ?_
  refine cd_X4_28 X dX4_pass_4 (c_isWithin l) (Nat.le_of_ble_eq_true rfl) ⟨(Nat.le_of_ble_eq_true rfl), (Nat.le_of_ble_eq_true rfl), (Nat.le_of_ble_eq_true rfl), (Nat.le_of_ble_eq_true rfl)⟩ ?_
  refine cd_X4_36 X dX4_pass_7 (c_needArgument l (inB_ne h1)) (Nat.le_of_ble_eq_true rfl) ⟨(Nat.le_of_ble_eq_true rfl), (Nat.le_of_ble_eq_true rfl), (Nat.le_of_ble_eq_true rfl), (Nat.le_of_ble_eq_true rfl)⟩ ?_
  refine v_aload0 X dX4_pass_10 rfl ?_
  refine gf_X4_21 X dX4_pass_11 hR.v.2 ?_
  refine v_iload1 X dX4_pass_14 rfl ?_
  refine cd_X4_122 X dX4_pass_15 (c_X2_live l hR.1 ho (Nat.le_refl 4) hw hwk hd hd2) (gV_v hR.1) rfl (Nat.le_of_ble_eq_true rfl) ⟨(Nat.le_of_ble_eq_true rfl), (Nat.le_of_ble_eq_true rfl), (Nat.le_of_ble_eq_true rfl), (Nat.le_of_ble_eq_true rfl)⟩ ?_
  exact v_iret X hr hlk dX4_pass_18 ⟨rfl, rfl, rfl, rfl⟩
set_option maxRecDepth 100000 in
set_option maxHeartbeats 4000000 in
theorem c_count (l : Launch) {z0 n : Nat} {D : va_G} {cy : Nat → ClassId} {ad : Nat → Nat} {S : tS} {g0 : Nat → va_E} {j : Nat} (hR : RO ad n g0) (ho : ok S) (hj : j < 11) (h1 : IN (nI j) 0 10) : Ct0 l yX4_count cX4_count 2 (some FieldType.int) 7 120 z0 D cy n ad (gV cy ad 4 S g0) [.ref (ad 0), .int (nI j)] (some (.int (totalS S j))) (gV cy ad 4 S g0) := by
  refine ct_of (by decide +kernel) 0 [some (.ref (ad 0)), some (.int (nI j))] (Nat.le_of_ble_eq_true rfl) rfl ?_
  intro p e s m below meth c X hr hlk hnm
  refine v_iload1 X dX4_count_0 rfl ?_
  refine v_ico (v := 0) X dX4_count_1 (by decide) ?_
  refine v_bip (v := 10) X dX4_count_2 (by decide) ?_
  refine cd_X4_28 X dX4_count_4 (c_isWithin l) (Nat.le_of_ble_eq_true rfl) ⟨(Nat.le_of_ble_eq_true rfl), (Nat.le_of_ble_eq_true rfl), (Nat.le_of_ble_eq_true rfl), (Nat.le_of_ble_eq_true rfl)⟩ ?_
  refine cd_X4_32 X dX4_count_7 (c_needIndex l (inB_ne h1)) (Nat.le_of_ble_eq_true rfl) ⟨(Nat.le_of_ble_eq_true rfl), (Nat.le_of_ble_eq_true rfl), (Nat.le_of_ble_eq_true rfl), (Nat.le_of_ble_eq_true rfl)⟩ ?_
  refine v_aload0 X dX4_count_10 rfl ?_
  refine gf_X4_21 X dX4_count_11 hR.v.2 ?_
  refine v_iload1 X dX4_count_14 rfl ?_
  refine cd_X4_125 X dX4_count_15 (c_X2_total l hj hR.1 ho) (gV_v hR.1) rfl (Nat.le_of_ble_eq_true rfl) ⟨(Nat.le_of_ble_eq_true rfl), (Nat.le_of_ble_eq_true rfl), (Nat.le_of_ble_eq_true rfl), (Nat.le_of_ble_eq_true rfl)⟩ ?_
  exact v_iret X hr hlk dX4_count_18 ⟨rfl, rfl, rfl, rfl⟩
