/-! the model's drought, full, digest -/
def cntF (ra : Nat → Int32) (f : Nat) : Nat → Nat → Nat
  | 0, m => m
  | q + 1, m => if ra ((f + m) % 28) = 0 then cntF ra f q (m + 1) else m
def drM (ra : Nat → Int32) : Int32 := itr (fun f a => jmax a (nI (cntF ra f 28 0))) 0 28 0
theorem cntF_s (ra : Nat → Int32) (f q m : Nat) : cntF ra f (q + 1) m = if ra ((f + m) % 28) = 0 then cntF ra f q (m + 1) else m := rfl
set_option maxRecDepth 100000 in
set_option maxHeartbeats 4000000 in
theorem m_drought (l : Launch) {z0 n : Nat} {D : va_G} {cy : Nat → ClassId} {ad : Nat → Nat} {th : Int32} {ra le : Nat → Int32} {S : tS} {g : Nat → va_E} (hn : 61 ≤ n) : Ct0 l yX5_drought cX5_drought 4 (some FieldType.int) 1 40 z0 D cy n ad (gM cy ad th ra le S g) [.ref (ad 54)] (some (.int (drM ra))) (gM cy ad 0 ra le S g) := by
  refine ct_of (by decide +kernel) 3 [some (.ref (ad 54)), none, none, none] (Nat.le_of_ble_eq_true rfl) rfl ?_
  intro p e s m below meth c X hr hlk hnm
  generalize hQ : MQ below (QcR z0 D (isR (some (.int (drM ra))) n ad (gM cy ad 0 ra le S g))) ([.ref (ad 54)] : List Value).toArray s 0 0 (fun q => z0 ≤ q) = Q
  refine v_aload0 X dX5_drought_0 rfl ?_
  refine v_ico (v := 0) X dX5_drought_1 (by decide) ?_
  refine pf_X5_28 X dX5_drought_2 (gM_t hn) ?_
  refine vV.gg (gM_upT) ?_
  refine v_ico (v := 0) X dX5_drought_5 (by decide) ?_
  refine v_istore1 X rfl (Nat.le_of_ble_eq_true rfl) dX5_drought_6 ?_
  refine v_ico (v := 0) X dX5_drought_7 (by decide) ?_
  refine v_istore2 X rfl (Nat.le_of_ble_eq_true rfl) dX5_drought_8 ?_
  refine loop_up (fun f a => jmax a (nI (cntF ra f 28 0))) (fun f a => vV p l e (rmv 1 40) s m ([.ref (ad 54)] : List Value).toArray below meth c 4 z0 D 0 0 Q n ad (gM cy ad 0 ra le S g) 9 [some (.ref (ad 54)), some (.int a), some (.int (nI f)), none] []) 28 ?_ 28 0 0 rfl ?_
  · intro f a hf hk
    have hE : ∀ i, cntF ra f 28 0 = i → vV p l e (rmv 1 40) s m ([.ref (ad 54)] : List Value).toArray below meth c 4 z0 D 0 0 Q n ad (gM cy ad 0 ra le S g) 43 [some (.ref (ad 54)), some (.int a), some (.int (nI f)), some (.int (nI i))] [] := by
      intro i hi
      rw [hi] at hk
      refine v_iload1 X dX5_drought_43 rfl ?_
      refine v_iload3 X dX5_drought_44 rfl ?_
      refine v_mmax X dX5_drought_45 wm_X5_114 wt_J9_max_7cf53 wz_J9 wc_J9_max_7cf53 ⟨(Nat.le_of_ble_eq_true rfl), (Nat.le_of_ble_eq_true rfl), (Nat.le_of_ble_eq_true rfl), (Nat.le_of_ble_eq_true rfl)⟩ ?_
      refine v_istore1 X rfl (Nat.le_of_ble_eq_true rfl) dX5_drought_48 ?_
      refine v_iinc2 (v := nI (f + 1)) X rfl (Nat.le_of_ble_eq_true rfl) dX5_drought_49 (nI_inc f) ?_
      refine v_goto (tgt := 9) X dX5_drought_52 (by decide) ?_
      exact vV.le (A := [some (.ref (ad 54)), some (.int (jmax a (nI i))), some (.int (nI (f + 1))), none]) ⟨rfl, rfl, rfl, trivial⟩ hk
    have hL : ∀ q i, q + i = 28 → cntF ra f 28 0 = cntF ra f q i → vV p l e (rmv 1 40) s m ([.ref (ad 54)] : List Value).toArray below meth c 4 z0 D 0 0 Q n ad (gM cy ad 0 ra le S g) 17 [some (.ref (ad 54)), some (.int a), some (.int (nI f)), some (.int (nI i))] [] := by
      intro q
      induction q with
      | zero =>
        intro i hi he
        have : i = 28 := by omega
        subst this
        refine v_iload3 X dX5_drought_17 rfl ?_
        refine v_bip (v := 28) X dX5_drought_18 (by decide) ?_
        refine v_icmp_ge (tgt := 43) X dX5_drought_20 (by decide) (fun hc => ?_) (fun hc => ?_)
        · exact hE 28 he
        exact absurd (Int32.le_refl _) hc
      | succ q ih =>
        intro i hi he
        rw [cntF_s ra f q i] at he
        refine v_iload3 X dX5_drought_17 rfl ?_
        refine v_bip (v := 28) X dX5_drought_18 (by decide) ?_
        refine v_icmp_ge (tgt := 43) X dX5_drought_20 (by decide) (fun hc => ?_) (fun hc => ?_)
        · exact absurd hc (nIge (N := 28) (by omega) (by decide))
        refine v_aload0 X dX5_drought_23 rfl ?_
        refine gf_X5_9 X dX5_drought_24 (gM_t hn) ?_
        refine v_iload2 X dX5_drought_27 rfl ?_
        refine v_iload3 X dX5_drought_28 rfl ?_
        refine v_iadd X dX5_drought_29 ?_
        refine v_bip (v := 28) X dX5_drought_30 (by decide) ?_
        refine v_irem X dX5_drought_32 (by decide) ?_
        refine v_iald X dX5_drought_33 (gM_r hn) (by rw [nI_add]; exact rem28 (by omega)) (Nat.mod_lt _ (by decide)) (by decide) ?_
        refine v_if_ne (tgt := 43) X dX5_drought_34 (by decide) (fun hd => ?_) (fun hd => ?_)
        · rw [if_neg hd] at he
          exact hE i he
        refine v_iinc3 (v := nI (i + 1)) X rfl (Nat.le_of_ble_eq_true rfl) dX5_drought_37 (nI_inc i) ?_
        refine v_goto (tgt := 17) X dX5_drought_40 (by decide) ?_
        rw [if_pos hd] at he
        exact ih (i + 1) (by omega) he
    refine v_iload2 X dX5_drought_9 rfl ?_
    refine v_bip (v := 28) X dX5_drought_10 (by decide) ?_
    refine v_icmp_ge (tgt := 55) X dX5_drought_12 (by decide) (fun hc => ?_) (fun hc => ?_)
    · exact absurd hc (nIge (N := 28) hf (by decide))
    refine v_ico (v := 0) X dX5_drought_15 (by decide) ?_
    refine v_istore3 X rfl (Nat.le_of_ble_eq_true rfl) dX5_drought_16 ?_
    exact hL 28 0 rfl rfl
  refine v_iload2 X dX5_drought_9 rfl ?_
  refine v_bip (v := 28) X dX5_drought_10 (by decide) ?_
  refine v_icmp_ge (tgt := 55) X dX5_drought_12 (by decide) (fun hc => ?_) (fun hc => ?_)
  · refine v_iload1 X dX5_drought_55 rfl ?_
    rw [← hQ]
    exact v_iret X hr hlk dX5_drought_56 ⟨rfl, rfl, rfl, rfl⟩
  exact absurd (Int32.le_refl _) hc
set_option maxRecDepth 100000 in
set_option maxHeartbeats 4000000 in
theorem m_full (l : Launch) {z0 n : Nat} {D : va_G} {cy : Nat → ClassId} {ad : Nat → Nat} {th : Int32} {ra le : Nat → Int32} {S : tS} {g : Nat → va_E} (hn : 61 ≤ n) (ho : ok S) : Ct0 l yX5_full cX5_full 1 (some FieldType.double) 2 45 z0 D cy n ad (gM cy ad th ra le S g) [.ref (ad 54)] (some (.double (fullA S))) (gM cy ad 0 ra le S g) := by
  refine ct_of (by decide +kernel) 0 [some (.ref (ad 54))] (Nat.le_of_ble_eq_true rfl) rfl ?_
  intro p e s m below meth c X hr hlk hnm
  obtain ⟨A, B, a1, b1, a2, b2, b3⟩ := sums_ok ho
  have hN := ho.1
  refine v_aload0 X dX5_full_0 rfl ?_
  refine v_ico (v := 0) X dX5_full_1 (by decide) ?_
  refine pf_X5_28 X dX5_full_2 (gM_t hn) ?_
  refine vV.gg (gM_upT) ?_
  refine v_aload0 X dX5_full_5 rfl ?_
  refine gf_X5_32 X dX5_full_6 (gM_t hn) ?_
  refine v_if_ne (tgt := 16) X dX5_full_9 (by decide) (fun hc => ?_) (fun hc => ?_)
  rotate_left
  · refine v_dcon X dX5_full_12 ?_
    refine v_goto (tgt := 29) X dX5_full_13 (by decide) ?_
    have h0 : sN S = 0 := nI_inj (by omega) (by decide) hc
    have hz : sumS 1 S = 0 := by unfold sumS; rw [h0]; rfl
    exact v_dret X hr hlk dX5_full_29 ⟨by unfold fullA; rw [hz, if_neg (by decide)], rfl, rfl, rfl⟩
  have hB : 0 < B := by
    rcases Nat.eq_zero_or_pos (sN S) with h | h
    · exact absurd (show nI (sN S) = 0 by rw [h]; rfl) hc
    · omega
  have hc' : 0 < sumS 1 S := by rw [b1]; exact nI_lt (a := 0) hB (by omega)
  have hq : vf_n64 (FP.ddiv (FP.i2d (sumS 2 S)) (FP.i2d (sumS 1 S))) := by
    rw [a1, b1]
    exact fq_div a2 b2 hB
  refine v_aload0 X dX5_full_16 rfl ?_
  refine v_ico (v := 2) X dX5_full_17 (by decide) ?_
  refine cd_X5_95 X dX5_full_18 (m_all l (w := 2) hn ho.1 (by decide)) (gM_t hn) rfl (Nat.le_of_ble_eq_true rfl) ⟨(Nat.le_of_ble_eq_true rfl), (Nat.le_of_ble_eq_true rfl), (Nat.le_of_ble_eq_true rfl), (Nat.le_of_ble_eq_true rfl)⟩ ?_
  refine v_i2d X dX5_full_21 ?_
  refine v_aload0 X dX5_full_22 rfl ?_
  refine v_ico (v := 1) X dX5_full_23 (by decide) ?_
  refine cd_X5_95 X dX5_full_24 (m_all l (w := 1) hn ho.1 (by decide)) (gM_t hn) rfl (Nat.le_of_ble_eq_true rfl) ⟨(Nat.le_of_ble_eq_true rfl), (Nat.le_of_ble_eq_true rfl), (Nat.le_of_ble_eq_true rfl), (Nat.le_of_ble_eq_true rfl)⟩ ?_
  refine v_i2d X dX5_full_27 ?_
  refine v_ddiv X dX5_full_28 hq ?_
  exact v_dret X hr hlk dX5_full_29 ⟨by unfold fullA; rw [if_pos hc'], rfl, rfl, rfl⟩
/-- what houses owe each other, by pipes and by who got what from whom -/
def dbI (S : tS) : Prop := ∀ a b, a < sN S → b < sN S → debtS (nI a) (nI b) S = sF S (10 * a + b) - sF S (10 * b + a)
set_option maxRecDepth 100000 in
set_option maxHeartbeats 4000000 in
theorem m_digest (l : Launch) {z0 n : Nat} {D : va_G} {cy : Nat → ClassId} {ad : Nat → Nat} {th : Int32} {ra le : Nat → Int32} {S : tS} {g : Nat → va_E} (hn : 61 ≤ n) (ho : ok S) (hdb : dbI S) : Ct0 l yX5_digest cX5_digest 5 (some FieldType.long) 3 68 z0 D cy n ad (gM cy ad th ra le S g) [.ref (ad 54)] (some (.long (digA ra le S))) (gM cy ad 0 ra le S g) := by
  refine ct_of (by decide +kernel) 4 [some (.ref (ad 54)), none, none, none, none] (Nat.le_of_ble_eq_true rfl) rfl ?_
  intro p e s m below meth c X hr hlk hnm
  have hN := ho.1
  have hP := ho.2.1
  generalize hQ : MQ below (QcR z0 D (isR (some (.long (digA ra le S))) n ad (gM cy ad 0 ra le S g))) ([.ref (ad 54)] : List Value).toArray s 0 0 (fun q => z0 ≤ q) = Q
  refine v_aload0 X dX5_digest_0 rfl ?_
  refine v_ico (v := 0) X dX5_digest_1 (by decide) ?_
  refine pf_X5_28 X dX5_digest_2 (gM_t hn) ?_
  refine vV.gg (gM_upT) ?_
  refine v_ldc2 X dX5_digest_5 wq_X5_117 ?_
  refine v_lstore1 X rfl (Nat.le_of_ble_eq_true rfl) dX5_digest_8 ?_
  refine v_ico (v := 0) X dX5_digest_9 (by decide) ?_
  refine v_istore3 X rfl (Nat.le_of_ble_eq_true rfl) dX5_digest_10 ?_
  refine loop_up (fun j d => mixA d (totalS S j)) (fun j d => vV p l e (rmv 3 68) s m ([.ref (ad 54)] : List Value).toArray below meth c 5 z0 D 0 0 Q n ad (gM cy ad 0 ra le S g) 11 [some (.ref (ad 54)), some (.long d), none, some (.int (nI j)), none] []) 11 ?_ 11 0 673 rfl ?_
  · intro j d hj hk
    refine v_iload3 X dX5_digest_11 rfl ?_
    refine v_bip (v := 11) X dX5_digest_12 (by decide) ?_
    refine v_icmp_ge (tgt := 36) X dX5_digest_14 (by decide) (fun hc => ?_) (fun hc => ?_)
    · exact absurd hc (nIge (N := 11) hj (by decide))
    refine v_lload1 X dX5_digest_17 rfl ?_
    refine v_ldc2 X dX5_digest_18 wq_X5_119 ?_
    refine v_lmul X dX5_digest_21 ?_
    refine v_aload0 X dX5_digest_22 rfl ?_
    refine v_iload3 X dX5_digest_23 rfl ?_
    refine cd_X5_98 X dX5_digest_24 (m_counted l hn ho.1 ho.2.1 hj) (gM_t hn) rfl (Nat.le_of_ble_eq_true rfl) ⟨(Nat.le_of_ble_eq_true rfl), (Nat.le_of_ble_eq_true rfl), (Nat.le_of_ble_eq_true rfl), (Nat.le_of_ble_eq_true rfl)⟩ ?_
    refine v_i2l X dX5_digest_27 ?_
    refine v_ladd X dX5_digest_28 ?_
    refine v_lstore1 X rfl (Nat.le_of_ble_eq_true rfl) dX5_digest_29 ?_
    refine v_iinc3 (v := nI (j + 1)) X rfl (Nat.le_of_ble_eq_true rfl) dX5_digest_30 (nI_inc j) ?_
    refine v_goto (tgt := 11) X dX5_digest_33 (by decide) ?_
    exact hk
  refine v_iload3 X dX5_digest_11 rfl ?_
  refine v_bip (v := 11) X dX5_digest_12 (by decide) ?_
  refine v_icmp_ge (tgt := 36) X dX5_digest_14 (by decide) (fun hc => ?_) (fun hc => ?_)
  rotate_left
  · exact absurd (Int32.le_refl _) hc
  refine v_ico (v := 0) X dX5_digest_36 (by decide) ?_
  refine v_istore3 X rfl (Nat.le_of_ble_eq_true rfl) dX5_digest_37 ?_
  refine loop_up (fun j d => mixA d (10 * ra j + le j)) (fun j d => vV p l e (rmv 3 68) s m ([.ref (ad 54)] : List Value).toArray below meth c 5 z0 D 0 0 Q n ad (gM cy ad 0 ra le S g) 38 [some (.ref (ad 54)), some (.long d), none, some (.int (nI j)), none] []) 28 ?_ 28 0 _ rfl ?_
  · intro j d hj hk
    refine v_iload3 X dX5_digest_38 rfl ?_
    refine v_bip (v := 28) X dX5_digest_39 (by decide) ?_
    refine v_icmp_ge (tgt := 74) X dX5_digest_41 (by decide) (fun hc => ?_) (fun hc => ?_)
    · exact absurd hc (nIge (N := 28) hj (by decide))
    refine v_lload1 X dX5_digest_44 rfl ?_
    refine v_ldc2 X dX5_digest_45 wq_X5_119 ?_
    refine v_lmul X dX5_digest_48 ?_
    refine v_bip (v := 10) X dX5_digest_49 (by decide) ?_
    refine v_aload0 X dX5_digest_51 rfl ?_
    refine gf_X5_9 X dX5_digest_52 (gM_t hn) ?_
    refine v_iload3 X dX5_digest_55 rfl ?_
    refine v_iald X dX5_digest_56 (gM_r hn) rfl hj (by decide) ?_
    refine v_imul X dX5_digest_57 ?_
    refine v_aload0 X dX5_digest_58 rfl ?_
    refine gf_X5_13 X dX5_digest_59 (gM_t hn) ?_
    refine v_iload3 X dX5_digest_62 rfl ?_
    refine v_iald X dX5_digest_63 (gM_e hn) rfl hj (by decide) ?_
    refine v_iadd X dX5_digest_64 ?_
    refine v_i2l X dX5_digest_65 ?_
    refine v_ladd X dX5_digest_66 ?_
    refine v_lstore1 X rfl (Nat.le_of_ble_eq_true rfl) dX5_digest_67 ?_
    refine v_iinc3 (v := nI (j + 1)) X rfl (Nat.le_of_ble_eq_true rfl) dX5_digest_68 (nI_inc j) ?_
    refine v_goto (tgt := 38) X dX5_digest_71 (by decide) ?_
    exact hk
  refine v_iload3 X dX5_digest_38 rfl ?_
  refine v_bip (v := 28) X dX5_digest_39 (by decide) ?_
  refine v_icmp_ge (tgt := 74) X dX5_digest_41 (by decide) (fun hc => ?_) (fun hc => ?_)
  rotate_left
  · exact absurd (Int32.le_refl _) hc
  refine v_ico (v := 0) X dX5_digest_74 (by decide) ?_
  refine v_istore3 X rfl (Nat.le_of_ble_eq_true rfl) dX5_digest_75 ?_
  refine loop_up (fun i d => itr (fun j d => mixA d (sH S i j)) 0 10 d) (fun i d => vV p l e (rmv 3 68) s m ([.ref (ad 54)] : List Value).toArray below meth c 5 z0 D 0 0 Q n ad (gM cy ad 0 ra le S g) 76 [some (.ref (ad 54)), some (.long d), none, some (.int (nI i)), none] []) (sN S) ?_ (sN S) 0 _ (Nat.zero_add _) ?_
  · intro i d hi hk
    refine v_iload3 X dX5_digest_76 rfl ?_
    refine v_aload0 X dX5_digest_77 rfl ?_
    refine gf_X5_32 X dX5_digest_78 (gM_t hn) ?_
    refine v_icmp_ge (tgt := 121) X dX5_digest_81 (by decide) (fun hc => ?_) (fun hc => ?_)
    · exact absurd hc (nIge hi (by omega))
    refine v_ico (v := 0) X dX5_digest_84 (by decide) ?_
    refine v_istore4 X rfl (Nat.le_of_ble_eq_true rfl) dX5_digest_85 ?_
    refine loop_up (fun j d => mixA d (sH S i j)) (fun j d => vV p l e (rmv 3 68) s m ([.ref (ad 54)] : List Value).toArray below meth c 5 z0 D 0 0 Q n ad (gM cy ad 0 ra le S g) 87 [some (.ref (ad 54)), some (.long d), none, some (.int (nI i)), some (.int (nI j))] []) 10 ?_ 10 0 d rfl ?_
    · intro j d hj hk2
      refine v_iload X dX5_digest_87 rfl ?_
      refine v_bip (v := 10) X dX5_digest_89 (by decide) ?_
      refine v_icmp_ge (tgt := 115) X dX5_digest_91 (by decide) (fun hc2 => ?_) (fun hc2 => ?_)
      · exact absurd hc2 (nIge (N := 10) hj (by decide))
      refine v_lload1 X dX5_digest_94 rfl ?_
      refine v_ldc2 X dX5_digest_95 wq_X5_119 ?_
      refine v_lmul X dX5_digest_98 ?_
      refine v_aload0 X dX5_digest_99 rfl ?_
      refine v_iload3 X dX5_digest_100 rfl ?_
      refine v_iload X dX5_digest_101 rfl ?_
      refine cd_X5_56 X dX5_digest_103 (m_ho l hn ho.1 hi hj) (gM_t hn) rfl (Nat.le_of_ble_eq_true rfl) ⟨(Nat.le_of_ble_eq_true rfl), (Nat.le_of_ble_eq_true rfl), (Nat.le_of_ble_eq_true rfl), (Nat.le_of_ble_eq_true rfl)⟩ ?_
      refine v_i2l X dX5_digest_106 ?_
      refine v_ladd X dX5_digest_107 ?_
      refine v_lstore1 X rfl (Nat.le_of_ble_eq_true rfl) dX5_digest_108 ?_
      refine v_iinc4 (v := nI (j + 1)) X rfl (Nat.le_of_ble_eq_true rfl) dX5_digest_109 (nI_inc j) ?_
      refine v_goto (tgt := 87) X dX5_digest_112 (by decide) ?_
      exact hk2
    refine v_iload X dX5_digest_87 rfl ?_
    refine v_bip (v := 10) X dX5_digest_89 (by decide) ?_
    refine v_icmp_ge (tgt := 115) X dX5_digest_91 (by decide) (fun hc2 => ?_) (fun hc2 => ?_)
    · refine v_iinc3 (v := nI (i + 1)) X rfl (Nat.le_of_ble_eq_true rfl) dX5_digest_115 (nI_inc i) ?_
      refine v_goto (tgt := 76) X dX5_digest_118 (by decide) ?_
      exact vV.le (A := [some (.ref (ad 54)), some (.long _), none, some (.int (nI (i + 1))), none]) ⟨rfl, rfl, rfl, trivial⟩ hk
    exact absurd (Int32.le_refl _) hc2
  refine v_iload3 X dX5_digest_76 rfl ?_
  refine v_aload0 X dX5_digest_77 rfl ?_
  refine gf_X5_32 X dX5_digest_78 (gM_t hn) ?_
  refine v_icmp_ge (tgt := 121) X dX5_digest_81 (by decide) (fun hc => ?_) (fun hc => ?_)
  rotate_left
  · exact absurd (Int32.le_refl _) hc
  refine v_ico (v := 0) X dX5_digest_121 (by decide) ?_
  refine v_istore3 X rfl (Nat.le_of_ble_eq_true rfl) dX5_digest_122 ?_
  refine loop_up (fun i d => itr (fun j d => mixA d (sQ S i j)) 0 5 d) (fun i d => vV p l e (rmv 3 68) s m ([.ref (ad 54)] : List Value).toArray below meth c 5 z0 D 0 0 Q n ad (gM cy ad 0 ra le S g) 123 [some (.ref (ad 54)), some (.long d), none, some (.int (nI i)), none] []) (sP S) ?_ (sP S) 0 _ (Nat.zero_add _) ?_
  · intro i d hi hk
    refine v_iload3 X dX5_digest_123 rfl ?_
    refine v_aload0 X dX5_digest_124 rfl ?_
    refine gf_X5_39 X dX5_digest_125 (gM_t hn) ?_
    refine v_icmp_ge (tgt := 167) X dX5_digest_128 (by decide) (fun hc => ?_) (fun hc => ?_)
    · exact absurd hc (nIge hi (by omega))
    refine v_ico (v := 0) X dX5_digest_131 (by decide) ?_
    refine v_istore4 X rfl (Nat.le_of_ble_eq_true rfl) dX5_digest_132 ?_
    refine loop_up (fun j d => mixA d (sQ S i j)) (fun j d => vV p l e (rmv 3 68) s m ([.ref (ad 54)] : List Value).toArray below meth c 5 z0 D 0 0 Q n ad (gM cy ad 0 ra le S g) 134 [some (.ref (ad 54)), some (.long d), none, some (.int (nI i)), some (.int (nI j))] []) 5 ?_ 5 0 d rfl ?_
    · intro j d hj hk2
      refine v_iload X dX5_digest_134 rfl ?_
      refine v_ico (v := 5) X dX5_digest_136 (by decide) ?_
      refine v_icmp_ge (tgt := 161) X dX5_digest_137 (by decide) (fun hc2 => ?_) (fun hc2 => ?_)
      · exact absurd hc2 (nIge (N := 5) hj (by decide))
      refine v_lload1 X dX5_digest_140 rfl ?_
      refine v_ldc2 X dX5_digest_141 wq_X5_119 ?_
      refine v_lmul X dX5_digest_144 ?_
      refine v_aload0 X dX5_digest_145 rfl ?_
      refine v_iload3 X dX5_digest_146 rfl ?_
      refine v_iload X dX5_digest_147 rfl ?_
      refine cd_X5_67 X dX5_digest_149 (m_pi l hn ho.2.1 hi hj) (gM_t hn) rfl (Nat.le_of_ble_eq_true rfl) ⟨(Nat.le_of_ble_eq_true rfl), (Nat.le_of_ble_eq_true rfl), (Nat.le_of_ble_eq_true rfl), (Nat.le_of_ble_eq_true rfl)⟩ ?_
      refine v_i2l X dX5_digest_152 ?_
      refine v_ladd X dX5_digest_153 ?_
      refine v_lstore1 X rfl (Nat.le_of_ble_eq_true rfl) dX5_digest_154 ?_
      refine v_iinc4 (v := nI (j + 1)) X rfl (Nat.le_of_ble_eq_true rfl) dX5_digest_155 (nI_inc j) ?_
      refine v_goto (tgt := 134) X dX5_digest_158 (by decide) ?_
      exact hk2
    refine v_iload X dX5_digest_134 rfl ?_
    refine v_ico (v := 5) X dX5_digest_136 (by decide) ?_
    refine v_icmp_ge (tgt := 161) X dX5_digest_137 (by decide) (fun hc2 => ?_) (fun hc2 => ?_)
    · refine v_iinc3 (v := nI (i + 1)) X rfl (Nat.le_of_ble_eq_true rfl) dX5_digest_161 (nI_inc i) ?_
      refine v_goto (tgt := 123) X dX5_digest_164 (by decide) ?_
      exact vV.le (A := [some (.ref (ad 54)), some (.long _), none, some (.int (nI (i + 1))), none]) ⟨rfl, rfl, rfl, trivial⟩ hk
    exact absurd (Int32.le_refl _) hc2
  refine v_iload3 X dX5_digest_123 rfl ?_
  refine v_aload0 X dX5_digest_124 rfl ?_
  refine gf_X5_39 X dX5_digest_125 (gM_t hn) ?_
  refine v_icmp_ge (tgt := 167) X dX5_digest_128 (by decide) (fun hc => ?_) (fun hc => ?_)
  rotate_left
  · exact absurd (Int32.le_refl _) hc
  refine v_ico (v := 0) X dX5_digest_167 (by decide) ?_
  refine v_istore3 X rfl (Nat.le_of_ble_eq_true rfl) dX5_digest_168 ?_
  refine loop_up (fun i d => itr (fun j d => mixA d (debtS (nI i) (nI j) S)) (i + 1) (sN S - (i + 1)) d) (fun i d => vV p l e (rmv 3 68) s m ([.ref (ad 54)] : List Value).toArray below meth c 5 z0 D 0 0 Q n ad (gM cy ad 0 ra le S g) 169 [some (.ref (ad 54)), some (.long d), none, some (.int (nI i)), none] []) (sN S) ?_ (sN S) 0 _ (Nat.zero_add _) ?_
  · intro i d hi hk
    refine v_iload3 X dX5_digest_169 rfl ?_
    refine v_aload0 X dX5_digest_170 rfl ?_
    refine gf_X5_32 X dX5_digest_171 (gM_t hn) ?_
    refine v_icmp_ge (tgt := 218) X dX5_digest_174 (by decide) (fun hc => ?_) (fun hc => ?_)
    · exact absurd hc (nIge hi (by omega))
    refine v_iload3 X dX5_digest_177 rfl ?_
    refine v_ico (v := 1) X dX5_digest_178 (by decide) ?_
    refine v_iadd X dX5_digest_179 ?_
    refine vV.top (congrArg Value.int (nI_1 i)) ?_
    refine v_istore4 X rfl (Nat.le_of_ble_eq_true rfl) dX5_digest_180 ?_
    refine loop_up (fun j d => mixA d (debtS (nI i) (nI j) S)) (fun j d => vV p l e (rmv 3 68) s m ([.ref (ad 54)] : List Value).toArray below meth c 5 z0 D 0 0 Q n ad (gM cy ad 0 ra le S g) 182 [some (.ref (ad 54)), some (.long d), none, some (.int (nI i)), some (.int (nI j))] []) (sN S) ?_ (sN S - (i + 1)) (i + 1) d (by omega) ?_
    · intro j d hj hk2
      rw [hdb i j hi hj] at hk2
      refine v_iload X dX5_digest_182 rfl ?_
      refine v_aload0 X dX5_digest_184 rfl ?_
      refine gf_X5_32 X dX5_digest_185 (gM_t hn) ?_
      refine v_icmp_ge (tgt := 212) X dX5_digest_188 (by decide) (fun hc2 => ?_) (fun hc2 => ?_)
      · exact absurd hc2 (nIge hj (by omega))
      refine v_lload1 X dX5_digest_191 rfl ?_
      refine v_ldc2 X dX5_digest_192 wq_X5_119 ?_
      refine v_lmul X dX5_digest_195 ?_
      refine v_aload0 X dX5_digest_196 rfl ?_
      refine v_iload3 X dX5_digest_197 rfl ?_
      refine v_iload X dX5_digest_198 rfl ?_
      refine cd_X5_78 X dX5_digest_200 (m_debt l hn (by omega) (by omega)) (gM_t hn) rfl (Nat.le_of_ble_eq_true rfl) ⟨(Nat.le_of_ble_eq_true rfl), (Nat.le_of_ble_eq_true rfl), (Nat.le_of_ble_eq_true rfl), (Nat.le_of_ble_eq_true rfl)⟩ ?_
      refine v_i2l X dX5_digest_203 ?_
      refine v_ladd X dX5_digest_204 ?_
      refine v_lstore1 X rfl (Nat.le_of_ble_eq_true rfl) dX5_digest_205 ?_
      refine v_iinc4 (v := nI (j + 1)) X rfl (Nat.le_of_ble_eq_true rfl) dX5_digest_206 (nI_inc j) ?_
      refine v_goto (tgt := 182) X dX5_digest_209 (by decide) ?_
      exact hk2
    refine v_iload X dX5_digest_182 rfl ?_
    refine v_aload0 X dX5_digest_184 rfl ?_
    refine gf_X5_32 X dX5_digest_185 (gM_t hn) ?_
    refine v_icmp_ge (tgt := 212) X dX5_digest_188 (by decide) (fun hc2 => ?_) (fun hc2 => ?_)
    · refine v_iinc3 (v := nI (i + 1)) X rfl (Nat.le_of_ble_eq_true rfl) dX5_digest_212 (nI_inc i) ?_
      refine v_goto (tgt := 169) X dX5_digest_215 (by decide) ?_
      exact vV.le (A := [some (.ref (ad 54)), some (.long _), none, some (.int (nI (i + 1))), none]) ⟨rfl, rfl, rfl, trivial⟩ hk
    exact absurd (Int32.le_refl _) hc2
  refine v_iload3 X dX5_digest_169 rfl ?_
  refine v_aload0 X dX5_digest_170 rfl ?_
  refine gf_X5_32 X dX5_digest_171 (gM_t hn) ?_
  refine v_icmp_ge (tgt := 218) X dX5_digest_174 (by decide) (fun hc => ?_) (fun hc => ?_)
  rotate_left
  · exact absurd (Int32.le_refl _) hc
  refine v_lload1 X dX5_digest_218 rfl ?_
  rw [← hQ]
  exact v_lret X hr hlk dX5_digest_219 ⟨rfl, rfl, rfl, rfl⟩
