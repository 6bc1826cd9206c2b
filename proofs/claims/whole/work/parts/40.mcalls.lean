/-! the model's public methods that keep nothing -/
set_option maxRecDepth 100000 in
set_option maxHeartbeats 4000000 in
theorem m_setWeather (l : Launch) {z0 n : Nat} {D : va_G} {cy : Nat → ClassId} {ad : Nat → Nat} {j : Nat} {r e1 : Int32} {th : Int32} {ra le : Nat → Int32} {S : tS} {g : Nat → va_E} (hn : 61 ≤ n) (hj : j < 28) (h1 : IN (nI j) 0 27) (h2 : IN r 0 20) (h3 : IN e1 0 3) : Ct0 l yX5_setWeather cX5_setWeather 5 (some FieldType.int) 1 22 z0 D cy n ad (gM cy ad th ra le S g) [.ref (ad 54), .int (nI j), .int r, .int e1] (some (.int (10 * ra j + le j))) (gM cy ad 0 (upd ra j r) (upd le j e1) S g) := by
  refine ct_of (by decide +kernel) 1 [some (.ref (ad 54)), some (.int (nI j)), some (.int r), some (.int e1), none] (Nat.le_of_ble_eq_true rfl) rfl ?_
  intro p e s m below meth c X hr hlk hnm
  refine v_aload0 X dX5_setWeather_0 rfl ?_
  refine v_ico (v := 0) X dX5_setWeather_1 (by decide) ?_
  refine pf_X5_28 X dX5_setWeather_2 (gM_t hn) ?_
  refine vV.gg (gM_upT) ?_
  refine v_iload1 X dX5_setWeather_5 rfl ?_
  refine v_ico (v := 0) X dX5_setWeather_6 (by decide) ?_
  refine v_bip (v := 27) X dX5_setWeather_7 (by decide) ?_
  refine cd_X5_35 X dX5_setWeather_9 (m_isIn l) (Nat.le_of_ble_eq_true rfl) ⟨(Nat.le_of_ble_eq_true rfl), (Nat.le_of_ble_eq_true rfl), (Nat.le_of_ble_eq_true rfl), (Nat.le_of_ble_eq_true rfl)⟩ ?_
  refine v_if_ne (tgt := 21) X dX5_setWeather_12 (by decide) (fun hb => ?_) (fun hb => ?_)
  rotate_left
  · exact absurd hb (inB_ne h1)
  refine v_iload2 X dX5_setWeather_21 rfl ?_
  refine v_ico (v := 0) X dX5_setWeather_22 (by decide) ?_
  refine v_bip (v := 20) X dX5_setWeather_23 (by decide) ?_
  refine cd_X5_35 X dX5_setWeather_25 (m_isIn l) (Nat.le_of_ble_eq_true rfl) ⟨(Nat.le_of_ble_eq_true rfl), (Nat.le_of_ble_eq_true rfl), (Nat.le_of_ble_eq_true rfl), (Nat.le_of_ble_eq_true rfl)⟩ ?_
  refine v_if_eq (tgt := 40) X dX5_setWeather_28 (by decide) (fun hc => ?_) (fun hc => ?_)
  · exact absurd hc (inB_ne h2)
  refine v_iload3 X dX5_setWeather_31 rfl ?_
  refine v_ico (v := 0) X dX5_setWeather_32 (by decide) ?_
  refine v_ico (v := 3) X dX5_setWeather_33 (by decide) ?_
  refine cd_X5_35 X dX5_setWeather_34 (m_isIn l) (Nat.le_of_ble_eq_true rfl) ⟨(Nat.le_of_ble_eq_true rfl), (Nat.le_of_ble_eq_true rfl), (Nat.le_of_ble_eq_true rfl), (Nat.le_of_ble_eq_true rfl)⟩ ?_
  refine v_if_ne (tgt := 46) X dX5_setWeather_37 (by decide) (fun hd => ?_) (fun hd => ?_)
  rotate_left
  · exact absurd hd (inB_ne h3)
  refine v_bip (v := 10) X dX5_setWeather_46 (by decide) ?_
  refine v_aload0 X dX5_setWeather_48 rfl ?_
  refine gf_X5_9 X dX5_setWeather_49 (gM_t hn) ?_
  refine v_iload1 X dX5_setWeather_52 rfl ?_
  refine v_iald X dX5_setWeather_53 (gM_r hn) rfl hj (by decide) ?_
  refine v_imul X dX5_setWeather_54 ?_
  refine v_aload0 X dX5_setWeather_55 rfl ?_
  refine gf_X5_13 X dX5_setWeather_56 (gM_t hn) ?_
  refine v_iload1 X dX5_setWeather_59 rfl ?_
  refine v_iald X dX5_setWeather_60 (gM_e hn) rfl hj (by decide) ?_
  refine v_iadd X dX5_setWeather_61 ?_
  refine v_istore4 X rfl (Nat.le_of_ble_eq_true rfl) dX5_setWeather_62 ?_
  refine v_aload0 X dX5_setWeather_64 rfl ?_
  refine gf_X5_9 X dX5_setWeather_65 (gM_t hn) ?_
  refine v_iload1 X dX5_setWeather_68 rfl ?_
  refine v_iload2 X dX5_setWeather_69 rfl ?_
  refine v_iast X dX5_setWeather_70 (gM_r hn) rfl hj (by decide) ?_
  refine vV.gg (gM_upR) ?_
  refine v_aload0 X dX5_setWeather_71 rfl ?_
  refine gf_X5_13 X dX5_setWeather_72 (gM_t hn) ?_
  refine v_iload1 X dX5_setWeather_75 rfl ?_
  refine v_iload3 X dX5_setWeather_76 rfl ?_
  refine v_iast X dX5_setWeather_77 (gM_e hn) rfl hj (by decide) ?_
  refine vV.gg (gM_upE) ?_
  refine v_iload X dX5_setWeather_78 rfl ?_
  exact v_iret X hr hlk dX5_setWeather_80 ⟨rfl, rfl, rfl, rfl⟩
set_option maxRecDepth 100000 in
set_option maxHeartbeats 4000000 in
theorem mx1_setWeather (l : Launch) {z0 n : Nat} {D : va_G} {cy : Nat → ClassId} {ad : Nat → Nat} {x r e1 : Int32} {th : Int32} {ra le : Nat → Int32} {S : tS} {g : Nat → va_E} (hn : 61 ≤ n) (h1 : ¬ IN x 0 27) : Ct0 l yX5_setWeather cX5_setWeather 5 (some FieldType.int) 1 22 z0 D cy n ad (gM cy ad th ra le S g) [.ref (ad 54), .int x, .int r, .int e1] (some (.int 0)) (gM cy ad 1 ra le S g) := by
  refine ct_of (by decide +kernel) 1 [some (.ref (ad 54)), some (.int x), some (.int r), some (.int e1), none] (Nat.le_of_ble_eq_true rfl) rfl ?_
  intro p e s m below meth c X hr hlk hnm
  refine v_aload0 X dX5_setWeather_0 rfl ?_
  refine v_ico (v := 0) X dX5_setWeather_1 (by decide) ?_
  refine pf_X5_28 X dX5_setWeather_2 (gM_t hn) ?_
  refine vV.gg (gM_upT) ?_
  refine v_iload1 X dX5_setWeather_5 rfl ?_
  refine v_ico (v := 0) X dX5_setWeather_6 (by decide) ?_
  refine v_bip (v := 27) X dX5_setWeather_7 (by decide) ?_
  refine cd_X5_35 X dX5_setWeather_9 (m_isIn l) (Nat.le_of_ble_eq_true rfl) ⟨(Nat.le_of_ble_eq_true rfl), (Nat.le_of_ble_eq_true rfl), (Nat.le_of_ble_eq_true rfl), (Nat.le_of_ble_eq_true rfl)⟩ ?_
  rw [inB_0 h1]
  refine v_if_ne (tgt := 21) X dX5_setWeather_12 (by decide) (fun hb => ?_) (fun hb => ?_)
  · exact absurd rfl hb
  refine v_aload0 X dX5_setWeather_15 rfl ?_
  refine v_ico (v := 1) X dX5_setWeather_16 (by decide) ?_
  refine cd_X5_42 X dX5_setWeather_17 (m_fail l hn) (gM_t hn) rfl (Nat.le_of_ble_eq_true rfl) ⟨(Nat.le_of_ble_eq_true rfl), (Nat.le_of_ble_eq_true rfl), (Nat.le_of_ble_eq_true rfl), (Nat.le_of_ble_eq_true rfl)⟩ ?_
  exact v_iret X hr hlk dX5_setWeather_20 ⟨rfl, rfl, rfl, rfl⟩
set_option maxRecDepth 100000 in
set_option maxHeartbeats 4000000 in
theorem mx2_setWeather (l : Launch) {z0 n : Nat} {D : va_G} {cy : Nat → ClassId} {ad : Nat → Nat} {x r e1 : Int32} {th : Int32} {ra le : Nat → Int32} {S : tS} {g : Nat → va_E} (hn : 61 ≤ n) (h1 : IN x 0 27) (h2 : ¬ (IN r 0 20 ∧ IN e1 0 3)) : Ct0 l yX5_setWeather cX5_setWeather 5 (some FieldType.int) 1 22 z0 D cy n ad (gM cy ad th ra le S g) [.ref (ad 54), .int x, .int r, .int e1] (some (.int 0)) (gM cy ad 2 ra le S g) := by
  refine ct_of (by decide +kernel) 1 [some (.ref (ad 54)), some (.int x), some (.int r), some (.int e1), none] (Nat.le_of_ble_eq_true rfl) rfl ?_
  intro p e s m below meth c X hr hlk hnm
  generalize hQ : MQ below (QcR z0 D (isR (some (.int 0)) n ad (gM cy ad 2 ra le S g))) ([.ref (ad 54), .int x, .int r, .int e1] : List Value).toArray s 0 0 (fun q => z0 ≤ q) = Q
  refine v_aload0 X dX5_setWeather_0 rfl ?_
  refine v_ico (v := 0) X dX5_setWeather_1 (by decide) ?_
  refine pf_X5_28 X dX5_setWeather_2 (gM_t hn) ?_
  refine vV.gg (gM_upT) ?_
  refine v_iload1 X dX5_setWeather_5 rfl ?_
  refine v_ico (v := 0) X dX5_setWeather_6 (by decide) ?_
  refine v_bip (v := 27) X dX5_setWeather_7 (by decide) ?_
  refine cd_X5_35 X dX5_setWeather_9 (m_isIn l) (Nat.le_of_ble_eq_true rfl) ⟨(Nat.le_of_ble_eq_true rfl), (Nat.le_of_ble_eq_true rfl), (Nat.le_of_ble_eq_true rfl), (Nat.le_of_ble_eq_true rfl)⟩ ?_
  refine v_if_ne (tgt := 21) X dX5_setWeather_12 (by decide) (fun hb => ?_) (fun hb => ?_)
  rotate_left
  · exact absurd hb (inB_ne h1)
  have hF : vV p l e (rmv 1 22) s m ([.ref (ad 54), .int x, .int r, .int e1] : List Value).toArray below meth c 5 z0 D 0 0 Q n ad (gM cy ad 0 ra le S g) 40 [some (.ref (ad 54)), some (.int x), some (.int r), some (.int e1), none] [] := by
    refine v_aload0 X dX5_setWeather_40 rfl ?_
    refine v_ico (v := 2) X dX5_setWeather_41 (by decide) ?_
    refine cd_X5_42 X dX5_setWeather_42 (m_fail l hn) (gM_t hn) rfl (Nat.le_of_ble_eq_true rfl) ⟨(Nat.le_of_ble_eq_true rfl), (Nat.le_of_ble_eq_true rfl), (Nat.le_of_ble_eq_true rfl), (Nat.le_of_ble_eq_true rfl)⟩ ?_
    rw [← hQ]
    exact v_iret X hr hlk dX5_setWeather_45 ⟨rfl, rfl, rfl, rfl⟩
  refine v_iload2 X dX5_setWeather_21 rfl ?_
  refine v_ico (v := 0) X dX5_setWeather_22 (by decide) ?_
  refine v_bip (v := 20) X dX5_setWeather_23 (by decide) ?_
  refine cd_X5_35 X dX5_setWeather_25 (m_isIn l) (Nat.le_of_ble_eq_true rfl) ⟨(Nat.le_of_ble_eq_true rfl), (Nat.le_of_ble_eq_true rfl), (Nat.le_of_ble_eq_true rfl), (Nat.le_of_ble_eq_true rfl)⟩ ?_
  refine v_if_eq (tgt := 40) X dX5_setWeather_28 (by decide) (fun hc => ?_) (fun hc => ?_)
  · exact hF
  refine v_iload3 X dX5_setWeather_31 rfl ?_
  refine v_ico (v := 0) X dX5_setWeather_32 (by decide) ?_
  refine v_ico (v := 3) X dX5_setWeather_33 (by decide) ?_
  refine cd_X5_35 X dX5_setWeather_34 (m_isIn l) (Nat.le_of_ble_eq_true rfl) ⟨(Nat.le_of_ble_eq_true rfl), (Nat.le_of_ble_eq_true rfl), (Nat.le_of_ble_eq_true rfl), (Nat.le_of_ble_eq_true rfl)⟩ ?_
  refine v_if_ne (tgt := 46) X dX5_setWeather_37 (by decide) (fun hd => ?_) (fun hd => ?_)
  · exact absurd ⟨IN_of hc, IN_of hd⟩ h2
  exact hF
set_option maxRecDepth 100000 in
set_option maxHeartbeats 4000000 in
theorem m_chain (l : Launch) {z0 n : Nat} {D : va_G} {cy : Nat → ClassId} {ad : Nat → Nat} {h k : Nat} {o : Int32} {th : Int32} {ra le : Nat → Int32} {S : tS} {g : Nat → va_E} (hn : 61 ≤ n) (ho : ok S) (hh : h < sN S) (h2 : o = -1 ∨ hasB (sN S) o = 1) (h3 : nI h ≠ o) (ht : Ter (sN S) (sH S) k o) (h4 : thru k (sH S) o (nI h) = false) : Ct0 l yX5_chain cX5_chain 5 (some FieldType.int) 2 43 z0 D cy n ad (gM cy ad th ra le S g) [.ref (ad 54), .int (nI h), .int o] (some (.int (nI k))) (gM cy ad 0 ra le (chT h o S) g) := by
  refine ct_of (by decide +kernel) 2 [some (.ref (ad 54)), some (.int (nI h)), some (.int o), none, none] (Nat.le_of_ble_eq_true rfl) rfl ?_
  intro p e s m below meth c X hr hlk hnm
  have hN := ho.1
  generalize hQ : MQ below (QcR z0 D (isR (some (.int (nI k))) n ad (gM cy ad 0 ra le (chT h o S) g))) ([.ref (ad 54), .int (nI h), .int o] : List Value).toArray s 0 0 (fun q => z0 ≤ q) = Q
  have hL : ∀ (q i : Nat) (y : Int32), i + q = k → Ter (sN S) (sH S) q y → thru q (sH S) y (nI h) = false → vV p l e (rmv 2 43) s m ([.ref (ad 54), .int (nI h), .int o] : List Value).toArray below meth c 5 z0 D 0 0 Q n ad (gM cy ad 0 ra le S g) 48 [some (.ref (ad 54)), some (.int (nI h)), some (.int o), some (.int (nI i)), some (.int y)] [] := by
    intro q
    induction q with
    | zero =>
      intro i y hi hy hq
      have hy' : y = -1 := hy
      subst hy'
      have : i = k := hi
      subst this
      refine v_iload X dX5_chain_48 rfl ?_
      refine v_ico (v := -1) X dX5_chain_50 (by decide) ?_
      refine v_icmp_eq (tgt := 82) X dX5_chain_51 (by decide) (fun hc => ?_) (fun hc => ?_)
      · refine v_aload0 X dX5_chain_82 rfl ?_
        refine v_iload1 X dX5_chain_83 rfl ?_
        refine v_bip (v := 6) X dX5_chain_84 (by decide) ?_
        refine v_iload2 X dX5_chain_86 rfl ?_
        refine cd_X5_60 X dX5_chain_87 (m_set l (w := 6) hn hN hh (by decide)) (gM_t hn) rfl (Nat.le_of_ble_eq_true rfl) ⟨(Nat.le_of_ble_eq_true rfl), (Nat.le_of_ble_eq_true rfl), (Nat.le_of_ble_eq_true rfl), (Nat.le_of_ble_eq_true rfl)⟩ ?_
        refine v_iload3 X dX5_chain_90 rfl ?_
        rw [← hQ]
        exact v_iret X hr hlk dX5_chain_91 ⟨rfl, rfl, rfl, rfl⟩
      exact absurd rfl hc
    | succ q ih =>
      intro i y hi hy hq
      obtain ⟨j, hj, rfl, hy⟩ := hy
      rw [thru_nI (by omega)] at hq
      refine v_iload X dX5_chain_48 rfl ?_
      refine v_ico (v := -1) X dX5_chain_50 (by decide) ?_
      refine v_icmp_eq (tgt := 82) X dX5_chain_51 (by decide) (fun hc => ?_) (fun hc => ?_)
      · exact absurd hc (nI_m1 (by omega))
      refine v_iload X dX5_chain_54 rfl ?_
      refine v_iload1 X dX5_chain_56 rfl ?_
      refine v_icmp_ne (tgt := 66) X dX5_chain_57 (by decide) (fun hd => ?_) (fun hd => ?_)
      · refine v_iinc3 (v := nI (i + 1)) X rfl (Nat.le_of_ble_eq_true rfl) dX5_chain_66 (nI_inc i) ?_
        refine v_aload0 X dX5_chain_69 rfl ?_
        refine v_iload X dX5_chain_70 rfl ?_
        refine v_bip (v := 6) X dX5_chain_72 (by decide) ?_
        refine cd_X5_56 X dX5_chain_74 (m_ho l (w := 6) hn hN hj (by decide)) (gM_t hn) rfl (Nat.le_of_ble_eq_true rfl) ⟨(Nat.le_of_ble_eq_true rfl), (Nat.le_of_ble_eq_true rfl), (Nat.le_of_ble_eq_true rfl), (Nat.le_of_ble_eq_true rfl)⟩ ?_
        refine v_istore4 X rfl (Nat.le_of_ble_eq_true rfl) dX5_chain_77 ?_
        refine v_goto (tgt := 48) X dX5_chain_79 (by decide) ?_
        refine ih (i + 1) _ (by omega) hy ?_
        rw [if_neg hd] at hq
        exact hq
      rw [if_pos hd] at hq
      exact absurd hq (by decide)
  have hM : vV p l e (rmv 2 43) s m ([.ref (ad 54), .int (nI h), .int o] : List Value).toArray below meth c 5 z0 D 0 0 Q n ad (gM cy ad 0 ra le S g) 32 [some (.ref (ad 54)), some (.int (nI h)), some (.int o), none, none] [] := by
    refine v_iload1 X dX5_chain_32 rfl ?_
    refine v_iload2 X dX5_chain_33 rfl ?_
    refine v_icmp_ne (tgt := 43) X dX5_chain_34 (by decide) (fun hd => ?_) (fun hd => ?_)
    · refine v_ico (v := 0) X dX5_chain_43 (by decide) ?_
      refine v_istore3 X rfl (Nat.le_of_ble_eq_true rfl) dX5_chain_44 ?_
      refine v_iload2 X dX5_chain_45 rfl ?_
      refine v_istore4 X rfl (Nat.le_of_ble_eq_true rfl) dX5_chain_46 ?_
      exact hL k 0 o (Nat.zero_add _) ht h4
    exact absurd hd h3
  refine v_aload0 X dX5_chain_0 rfl ?_
  refine v_ico (v := 0) X dX5_chain_1 (by decide) ?_
  refine pf_X5_28 X dX5_chain_2 (gM_t hn) ?_
  refine vV.gg (gM_upT) ?_
  refine v_aload0 X dX5_chain_5 rfl ?_
  refine v_iload1 X dX5_chain_6 rfl ?_
  refine cd_X5_52 X dX5_chain_7 (m_isHouse l hn hN) (gM_t hn) rfl (Nat.le_of_ble_eq_true rfl) ⟨(Nat.le_of_ble_eq_true rfl), (Nat.le_of_ble_eq_true rfl), (Nat.le_of_ble_eq_true rfl), (Nat.le_of_ble_eq_true rfl)⟩ ?_
  rw [hasB_1 hh (by omega)]
  refine v_if_eq (tgt := 26) X dX5_chain_10 (by decide) (fun hb => ?_) (fun hb => ?_)
  · exact absurd hb (by decide)
  refine v_iload2 X dX5_chain_13 rfl ?_
  refine v_ico (v := -1) X dX5_chain_14 (by decide) ?_
  refine v_icmp_eq (tgt := 32) X dX5_chain_15 (by decide) (fun hc => ?_) (fun hc => ?_)
  · exact hM
  refine v_aload0 X dX5_chain_18 rfl ?_
  refine v_iload2 X dX5_chain_19 rfl ?_
  refine cd_X5_52 X dX5_chain_20 (m_isHouse l hn hN) (gM_t hn) rfl (Nat.le_of_ble_eq_true rfl) ⟨(Nat.le_of_ble_eq_true rfl), (Nat.le_of_ble_eq_true rfl), (Nat.le_of_ble_eq_true rfl), (Nat.le_of_ble_eq_true rfl)⟩ ?_
  refine v_if_ne (tgt := 32) X dX5_chain_23 (by decide) (fun hd => ?_) (fun hd => ?_)
  · exact hM
  rcases h2 with h2 | h2
  · exact absurd h2 hc
  · rw [h2] at hd
    exact absurd hd (by decide)
set_option maxRecDepth 100000 in
set_option maxHeartbeats 4000000 in
theorem mx1_chain (l : Launch) {z0 n : Nat} {D : va_G} {cy : Nat → ClassId} {ad : Nat → Nat} {x o : Int32} {th : Int32} {ra le : Nat → Int32} {S : tS} {g : Nat → va_E} (hn : 61 ≤ n) (ho : ok S) (h1 : hasB (sN S) x = 0 ∨ (o ≠ -1 ∧ hasB (sN S) o = 0)) : Ct0 l yX5_chain cX5_chain 5 (some FieldType.int) 2 43 z0 D cy n ad (gM cy ad th ra le S g) [.ref (ad 54), .int x, .int o] (some (.int 0)) (gM cy ad 1 ra le S g) := by
  refine ct_of (by decide +kernel) 2 [some (.ref (ad 54)), some (.int x), some (.int o), none, none] (Nat.le_of_ble_eq_true rfl) rfl ?_
  intro p e s m below meth c X hr hlk hnm
  have hN := ho.1
  generalize hQ : MQ below (QcR z0 D (isR (some (.int 0)) n ad (gM cy ad 1 ra le S g))) ([.ref (ad 54), .int x, .int o] : List Value).toArray s 0 0 (fun q => z0 ≤ q) = Q
  have hF : vV p l e (rmv 2 43) s m ([.ref (ad 54), .int x, .int o] : List Value).toArray below meth c 5 z0 D 0 0 Q n ad (gM cy ad 0 ra le S g) 26 [some (.ref (ad 54)), some (.int x), some (.int o), none, none] [] := by
    refine v_aload0 X dX5_chain_26 rfl ?_
    refine v_ico (v := 1) X dX5_chain_27 (by decide) ?_
    refine cd_X5_42 X dX5_chain_28 (m_fail l hn) (gM_t hn) rfl (Nat.le_of_ble_eq_true rfl) ⟨(Nat.le_of_ble_eq_true rfl), (Nat.le_of_ble_eq_true rfl), (Nat.le_of_ble_eq_true rfl), (Nat.le_of_ble_eq_true rfl)⟩ ?_
    rw [← hQ]
    exact v_iret X hr hlk dX5_chain_31 ⟨rfl, rfl, rfl, rfl⟩
  refine v_aload0 X dX5_chain_0 rfl ?_
  refine v_ico (v := 0) X dX5_chain_1 (by decide) ?_
  refine pf_X5_28 X dX5_chain_2 (gM_t hn) ?_
  refine vV.gg (gM_upT) ?_
  refine v_aload0 X dX5_chain_5 rfl ?_
  refine v_iload1 X dX5_chain_6 rfl ?_
  refine cd_X5_52 X dX5_chain_7 (m_isHouse l hn hN) (gM_t hn) rfl (Nat.le_of_ble_eq_true rfl) ⟨(Nat.le_of_ble_eq_true rfl), (Nat.le_of_ble_eq_true rfl), (Nat.le_of_ble_eq_true rfl), (Nat.le_of_ble_eq_true rfl)⟩ ?_
  refine v_if_eq (tgt := 26) X dX5_chain_10 (by decide) (fun hb => ?_) (fun hb => ?_)
  · exact hF
  rcases h1 with h1 | ⟨h1, h2⟩
  · exact absurd h1 hb
  refine v_iload2 X dX5_chain_13 rfl ?_
  refine v_ico (v := -1) X dX5_chain_14 (by decide) ?_
  refine v_icmp_eq (tgt := 32) X dX5_chain_15 (by decide) (fun hc => ?_) (fun hc => ?_)
  · exact absurd hc h1
  refine v_aload0 X dX5_chain_18 rfl ?_
  refine v_iload2 X dX5_chain_19 rfl ?_
  refine cd_X5_52 X dX5_chain_20 (m_isHouse l hn hN) (gM_t hn) rfl (Nat.le_of_ble_eq_true rfl) ⟨(Nat.le_of_ble_eq_true rfl), (Nat.le_of_ble_eq_true rfl), (Nat.le_of_ble_eq_true rfl), (Nat.le_of_ble_eq_true rfl)⟩ ?_
  refine v_if_ne (tgt := 32) X dX5_chain_23 (by decide) (fun hd => ?_) (fun hd => ?_)
  · exact absurd h2 hd
  exact hF
set_option maxRecDepth 100000 in
set_option maxHeartbeats 4000000 in
theorem mx2_chain (l : Launch) {z0 n : Nat} {D : va_G} {cy : Nat → ClassId} {ad : Nat → Nat} {h : Nat} {th : Int32} {ra le : Nat → Int32} {S : tS} {g : Nat → va_E} (hn : 61 ≤ n) (ho : ok S) (hh : h < sN S) : Ct0 l yX5_chain cX5_chain 5 (some FieldType.int) 2 43 z0 D cy n ad (gM cy ad th ra le S g) [.ref (ad 54), .int (nI h), .int (nI h)] (some (.int 0)) (gM cy ad 2 ra le S g) := by
  refine ct_of (by decide +kernel) 2 [some (.ref (ad 54)), some (.int (nI h)), some (.int (nI h)), none, none] (Nat.le_of_ble_eq_true rfl) rfl ?_
  intro p e s m below meth c X hr hlk hnm
  have hN := ho.1
  refine v_aload0 X dX5_chain_0 rfl ?_
  refine v_ico (v := 0) X dX5_chain_1 (by decide) ?_
  refine pf_X5_28 X dX5_chain_2 (gM_t hn) ?_
  refine vV.gg (gM_upT) ?_
  refine v_aload0 X dX5_chain_5 rfl ?_
  refine v_iload1 X dX5_chain_6 rfl ?_
  refine cd_X5_52 X dX5_chain_7 (m_isHouse l hn hN) (gM_t hn) rfl (Nat.le_of_ble_eq_true rfl) ⟨(Nat.le_of_ble_eq_true rfl), (Nat.le_of_ble_eq_true rfl), (Nat.le_of_ble_eq_true rfl), (Nat.le_of_ble_eq_true rfl)⟩ ?_
  rw [hasB_1 hh (by omega)]
  refine v_if_eq (tgt := 26) X dX5_chain_10 (by decide) (fun hb => ?_) (fun hb => ?_)
  · exact absurd hb (by decide)
  refine v_iload2 X dX5_chain_13 rfl ?_
  refine v_ico (v := -1) X dX5_chain_14 (by decide) ?_
  refine v_icmp_eq (tgt := 32) X dX5_chain_15 (by decide) (fun hc => ?_) (fun hc => ?_)
  · exact absurd hc (nI_m1 (by omega))
  refine v_aload0 X dX5_chain_18 rfl ?_
  refine v_iload2 X dX5_chain_19 rfl ?_
  refine cd_X5_52 X dX5_chain_20 (m_isHouse l hn hN) (gM_t hn) rfl (Nat.le_of_ble_eq_true rfl) ⟨(Nat.le_of_ble_eq_true rfl), (Nat.le_of_ble_eq_true rfl), (Nat.le_of_ble_eq_true rfl), (Nat.le_of_ble_eq_true rfl)⟩ ?_
  rw [hasB_1 hh (by omega)]
  refine v_if_ne (tgt := 32) X dX5_chain_23 (by decide) (fun hd => ?_) (fun hd => ?_)
  rotate_left
  · exact absurd hd (by decide)
  refine v_iload1 X dX5_chain_32 rfl ?_
  refine v_iload2 X dX5_chain_33 rfl ?_
  refine v_icmp_ne (tgt := 43) X dX5_chain_34 (by decide) (fun he => ?_) (fun he => ?_)
  · exact absurd rfl he
  refine v_aload0 X dX5_chain_37 rfl ?_
  refine v_ico (v := 2) X dX5_chain_38 (by decide) ?_
  refine cd_X5_42 X dX5_chain_39 (m_fail l hn) (gM_t hn) rfl (Nat.le_of_ble_eq_true rfl) ⟨(Nat.le_of_ble_eq_true rfl), (Nat.le_of_ble_eq_true rfl), (Nat.le_of_ble_eq_true rfl), (Nat.le_of_ble_eq_true rfl)⟩ ?_
  exact v_iret X hr hlk dX5_chain_42 ⟨rfl, rfl, rfl, rfl⟩
set_option maxRecDepth 100000 in
set_option maxHeartbeats 4000000 in
theorem mx3_chain (l : Launch) {z0 n : Nat} {D : va_G} {cy : Nat → ClassId} {ad : Nat → Nat} {h k : Nat} {o : Int32} {th : Int32} {ra le : Nat → Int32} {S : tS} {g : Nat → va_E} (hn : 61 ≤ n) (ho : ok S) (hh : h < sN S) (h2 : o ≠ -1) (h2' : hasB (sN S) o = 1) (h3 : nI h ≠ o) (ht : Ter (sN S) (sH S) k o) (h4 : thru k (sH S) o (nI h) = true) : Ct0 l yX5_chain cX5_chain 5 (some FieldType.int) 2 43 z0 D cy n ad (gM cy ad th ra le S g) [.ref (ad 54), .int (nI h), .int o] (some (.int 0)) (gM cy ad 3 ra le S g) := by
  refine ct_of (by decide +kernel) 2 [some (.ref (ad 54)), some (.int (nI h)), some (.int o), none, none] (Nat.le_of_ble_eq_true rfl) rfl ?_
  intro p e s m below meth c X hr hlk hnm
  have hN := ho.1
  generalize hQ : MQ below (QcR z0 D (isR (some (.int 0)) n ad (gM cy ad 3 ra le S g))) ([.ref (ad 54), .int (nI h), .int o] : List Value).toArray s 0 0 (fun q => z0 ≤ q) = Q
  have hL : ∀ (q i : Nat) (y : Int32), Ter (sN S) (sH S) q y → thru q (sH S) y (nI h) = true → vV p l e (rmv 2 43) s m ([.ref (ad 54), .int (nI h), .int o] : List Value).toArray below meth c 5 z0 D 0 0 Q n ad (gM cy ad 0 ra le S g) 48 [some (.ref (ad 54)), some (.int (nI h)), some (.int o), some (.int (nI i)), some (.int y)] [] := by
    intro q
    induction q with
    | zero =>
      intro i y hy hq
      exact absurd (show false = true from hq) (by decide)
    | succ q ih =>
      intro i y hy hq
      obtain ⟨j, hj, rfl, hy⟩ := hy
      rw [thru_nI (by omega)] at hq
      refine v_iload X dX5_chain_48 rfl ?_
      refine v_ico (v := -1) X dX5_chain_50 (by decide) ?_
      refine v_icmp_eq (tgt := 82) X dX5_chain_51 (by decide) (fun hc => ?_) (fun hc => ?_)
      · exact absurd hc (nI_m1 (by omega))
      refine v_iload X dX5_chain_54 rfl ?_
      refine v_iload1 X dX5_chain_56 rfl ?_
      refine v_icmp_ne (tgt := 66) X dX5_chain_57 (by decide) (fun hd => ?_) (fun hd => ?_)
      · refine v_iinc3 (v := nI (i + 1)) X rfl (Nat.le_of_ble_eq_true rfl) dX5_chain_66 (nI_inc i) ?_
        refine v_aload0 X dX5_chain_69 rfl ?_
        refine v_iload X dX5_chain_70 rfl ?_
        refine v_bip (v := 6) X dX5_chain_72 (by decide) ?_
        refine cd_X5_56 X dX5_chain_74 (m_ho l (w := 6) hn hN hj (by decide)) (gM_t hn) rfl (Nat.le_of_ble_eq_true rfl) ⟨(Nat.le_of_ble_eq_true rfl), (Nat.le_of_ble_eq_true rfl), (Nat.le_of_ble_eq_true rfl), (Nat.le_of_ble_eq_true rfl)⟩ ?_
        refine v_istore4 X rfl (Nat.le_of_ble_eq_true rfl) dX5_chain_77 ?_
        refine v_goto (tgt := 48) X dX5_chain_79 (by decide) ?_
        refine ih (i + 1) _ hy ?_
        rw [if_neg hd] at hq
        exact hq
      refine v_aload0 X dX5_chain_60 rfl ?_
      refine v_ico (v := 3) X dX5_chain_61 (by decide) ?_
      refine cd_X5_42 X dX5_chain_62 (m_fail l hn) (gM_t hn) rfl (Nat.le_of_ble_eq_true rfl) ⟨(Nat.le_of_ble_eq_true rfl), (Nat.le_of_ble_eq_true rfl), (Nat.le_of_ble_eq_true rfl), (Nat.le_of_ble_eq_true rfl)⟩ ?_
      rw [← hQ]
      exact v_iret X hr hlk dX5_chain_65 ⟨rfl, rfl, rfl, rfl⟩
  refine v_aload0 X dX5_chain_0 rfl ?_
  refine v_ico (v := 0) X dX5_chain_1 (by decide) ?_
  refine pf_X5_28 X dX5_chain_2 (gM_t hn) ?_
  refine vV.gg (gM_upT) ?_
  refine v_aload0 X dX5_chain_5 rfl ?_
  refine v_iload1 X dX5_chain_6 rfl ?_
  refine cd_X5_52 X dX5_chain_7 (m_isHouse l hn hN) (gM_t hn) rfl (Nat.le_of_ble_eq_true rfl) ⟨(Nat.le_of_ble_eq_true rfl), (Nat.le_of_ble_eq_true rfl), (Nat.le_of_ble_eq_true rfl), (Nat.le_of_ble_eq_true rfl)⟩ ?_
  rw [hasB_1 hh (by omega)]
  refine v_if_eq (tgt := 26) X dX5_chain_10 (by decide) (fun hb => ?_) (fun hb => ?_)
  · exact absurd hb (by decide)
  refine v_iload2 X dX5_chain_13 rfl ?_
  refine v_ico (v := -1) X dX5_chain_14 (by decide) ?_
  refine v_icmp_eq (tgt := 32) X dX5_chain_15 (by decide) (fun hc => ?_) (fun hc => ?_)
  · exact absurd hc h2
  refine v_aload0 X dX5_chain_18 rfl ?_
  refine v_iload2 X dX5_chain_19 rfl ?_
  refine cd_X5_52 X dX5_chain_20 (m_isHouse l hn hN) (gM_t hn) rfl (Nat.le_of_ble_eq_true rfl) ⟨(Nat.le_of_ble_eq_true rfl), (Nat.le_of_ble_eq_true rfl), (Nat.le_of_ble_eq_true rfl), (Nat.le_of_ble_eq_true rfl)⟩ ?_
  rw [h2']
  refine v_if_ne (tgt := 32) X dX5_chain_23 (by decide) (fun hd => ?_) (fun hd => ?_)
  rotate_left
  · exact absurd hd (by decide)
  refine v_iload1 X dX5_chain_32 rfl ?_
  refine v_iload2 X dX5_chain_33 rfl ?_
  refine v_icmp_ne (tgt := 43) X dX5_chain_34 (by decide) (fun he => ?_) (fun he => ?_)
  rotate_left
  · exact absurd he h3
  refine v_ico (v := 0) X dX5_chain_43 (by decide) ?_
  refine v_istore3 X rfl (Nat.le_of_ble_eq_true rfl) dX5_chain_44 ?_
  refine v_iload2 X dX5_chain_45 rfl ?_
  refine v_istore4 X rfl (Nat.le_of_ble_eq_true rfl) dX5_chain_46 ?_
  exact hL k 0 o ht h4
set_option maxRecDepth 100000 in
set_option maxHeartbeats 4000000 in
theorem m_turn (l : Launch) {z0 n : Nat} {D : va_G} {cy : Nat → ClassId} {ad : Nat → Nat} {j : Nat} {b : Int32} {th : Int32} {ra le : Nat → Int32} {S : tS} {g : Nat → va_E} (hn : 61 ≤ n) (ho : ok S) (hj : j < sP S) (hb : isB b) : Ct0 l yX5_turn cX5_turn 4 (some FieldType.boolean) 2 43 z0 D cy n ad (gM cy ad th ra le S g) [.ref (ad 54), .int (nI j), .int b] (some (.int (sQ S j 3))) (gM cy ad 0 ra le (tuT j b S) g) := by
  refine ct_of (by decide +kernel) 1 [some (.ref (ad 54)), some (.int (nI j)), some (.int b), none] (Nat.le_of_ble_eq_true rfl) rfl ?_
  intro p e s m below meth c X hr hlk hnm
  have hP := ho.2.1
  obtain ⟨-, -, -, -, -, -, -, hq⟩ := okQ_ends ho hj
  generalize hQ : MQ below (QcR z0 D (isR (some (.int (sQ S j 3))) n ad (gM cy ad 0 ra le (tuT j b S) g))) ([.ref (ad 54), .int (nI j), .int b] : List Value).toArray s 0 0 (fun q => z0 ≤ q) = Q
  have hM : vV p l e (rmv 2 43) s m ([.ref (ad 54), .int (nI j), .int b] : List Value).toArray below meth c 4 z0 D 0 0 Q n ad (gM cy ad 0 ra le S g) 41 [some (.ref (ad 54)), some (.int (nI j)), some (.int b), none] [.int (sQ S j 3)] := by
    refine v_istore3 X rfl (Nat.le_of_ble_eq_true rfl) dX5_turn_41 ?_
    refine v_aload0 X dX5_turn_42 rfl ?_
    refine gf_X5_19 X dX5_turn_43 (gM_t hn) ?_
    refine v_ico (v := 5) X dX5_turn_46 (by decide) ?_
    refine v_iload1 X dX5_turn_47 rfl ?_
    refine v_imul X dX5_turn_48 ?_
    refine v_ico (v := 3) X dX5_turn_49 (by decide) ?_
    refine v_iadd X dX5_turn_50 ?_
    refine v_iload2 X dX5_turn_51 rfl ?_
    refine v_if_eq (tgt := 59) X dX5_turn_52 (by decide) (fun hc => ?_) (fun hc => ?_)
    · refine v_ico (v := 0) X dX5_turn_59 (by decide) ?_
      refine v_iast X dX5_turn_60 (gM_l hn) (ix5 j 3) (by omega) (by decide) ?_
      refine vV.gg (gM_upL hj (by decide)) ?_
      refine v_iload3 X dX5_turn_61 rfl ?_
      rw [← hQ]
      subst hc
      exact v_zret X hr hlk dX5_turn_62 (isB_n hq) ⟨rfl, rfl, rfl, rfl⟩
    have hb1 : b = 1 := hb.resolve_left hc
    subst hb1
    refine v_ico (v := 1) X dX5_turn_55 (by decide) ?_
    refine v_goto (tgt := 60) X dX5_turn_56 (by decide) ?_
    refine v_iast X dX5_turn_60 (gM_l hn) (ix5 j 3) (by omega) (by decide) ?_
    refine vV.gg (gM_upL hj (by decide)) ?_
    refine v_iload3 X dX5_turn_61 rfl ?_
    rw [← hQ]
    exact v_zret X hr hlk dX5_turn_62 (isB_n hq) ⟨rfl, rfl, rfl, rfl⟩
  refine v_aload0 X dX5_turn_0 rfl ?_
  refine v_aload0 X dX5_turn_1 rfl ?_
  refine v_iload1 X dX5_turn_2 rfl ?_
  refine cd_X5_64 X dX5_turn_3 (m_isPipe l hn hP) (gM_t hn) rfl (Nat.le_of_ble_eq_true rfl) ⟨(Nat.le_of_ble_eq_true rfl), (Nat.le_of_ble_eq_true rfl), (Nat.le_of_ble_eq_true rfl), (Nat.le_of_ble_eq_true rfl)⟩ ?_
  rw [hasB_1 hj (by omega)]
  refine v_if_eq (tgt := 13) X dX5_turn_6 (by decide) (fun hd => ?_) (fun hd => ?_)
  · exact absurd hd (by decide)
  refine v_ico (v := 0) X dX5_turn_9 (by decide) ?_
  refine v_goto (tgt := 14) X dX5_turn_10 (by decide) ?_
  refine pf_X5_28 X dX5_turn_14 (gM_t hn) ?_
  refine vV.gg (gM_upT) ?_
  refine v_aload0 X dX5_turn_17 rfl ?_
  refine gf_X5_28 X dX5_turn_18 (gM_t hn) ?_
  refine v_if_eq (tgt := 26) X dX5_turn_21 (by decide) (fun he => ?_) (fun he => ?_)
  rotate_left
  · exact absurd rfl he
  refine v_aload0 X dX5_turn_26 rfl ?_
  refine v_iload1 X dX5_turn_27 rfl ?_
  refine v_ico (v := 3) X dX5_turn_28 (by decide) ?_
  refine cd_X5_67 X dX5_turn_29 (m_pi l (w := 3) hn hP hj (by decide)) (gM_t hn) rfl (Nat.le_of_ble_eq_true rfl) ⟨(Nat.le_of_ble_eq_true rfl), (Nat.le_of_ble_eq_true rfl), (Nat.le_of_ble_eq_true rfl), (Nat.le_of_ble_eq_true rfl)⟩ ?_
  refine v_ico (v := 1) X dX5_turn_32 (by decide) ?_
  refine v_icmp_ne (tgt := 40) X dX5_turn_33 (by decide) (fun hf => ?_) (fun hf => ?_)
  · refine v_ico (v := 0) X dX5_turn_40 (by decide) ?_
    have hq0 : sQ S j 3 = 0 := hq.resolve_right hf
    rw [hq0] at hM
    exact hM
  refine v_ico (v := 1) X dX5_turn_36 (by decide) ?_
  refine v_goto (tgt := 41) X dX5_turn_37 (by decide) ?_
  rw [hf] at hM
  exact hM
set_option maxRecDepth 100000 in
set_option maxHeartbeats 4000000 in
theorem mx1_turn (l : Launch) {z0 n : Nat} {D : va_G} {cy : Nat → ClassId} {ad : Nat → Nat} {x b : Int32} {th : Int32} {ra le : Nat → Int32} {S : tS} {g : Nat → va_E} (hn : 61 ≤ n) (ho : ok S) (h1 : hasB (sP S) x = 0) : Ct0 l yX5_turn cX5_turn 4 (some FieldType.boolean) 2 43 z0 D cy n ad (gM cy ad th ra le S g) [.ref (ad 54), .int x, .int b] (some (.int 0)) (gM cy ad 1 ra le S g) := by
  refine ct_of (by decide +kernel) 1 [some (.ref (ad 54)), some (.int x), some (.int b), none] (Nat.le_of_ble_eq_true rfl) rfl ?_
  intro p e s m below meth c X hr hlk hnm
  refine v_aload0 X dX5_turn_0 rfl ?_
  refine v_aload0 X dX5_turn_1 rfl ?_
  refine v_iload1 X dX5_turn_2 rfl ?_
  refine cd_X5_64 X dX5_turn_3 (m_isPipe l hn ho.2.1) (gM_t hn) rfl (Nat.le_of_ble_eq_true rfl) ⟨(Nat.le_of_ble_eq_true rfl), (Nat.le_of_ble_eq_true rfl), (Nat.le_of_ble_eq_true rfl), (Nat.le_of_ble_eq_true rfl)⟩ ?_
  rw [h1]
  refine v_if_eq (tgt := 13) X dX5_turn_6 (by decide) (fun hd => ?_) (fun hd => ?_)
  · refine v_ico (v := 1) X dX5_turn_13 (by decide) ?_
    refine pf_X5_28 X dX5_turn_14 (gM_t hn) ?_
    refine vV.gg (gM_upT) ?_
    refine v_aload0 X dX5_turn_17 rfl ?_
    refine gf_X5_28 X dX5_turn_18 (gM_t hn) ?_
    refine v_if_eq (tgt := 26) X dX5_turn_21 (by decide) (fun he => ?_) (fun he => ?_)
    · exact absurd he (by decide)
    refine v_ico (v := 0) X dX5_turn_24 (by decide) ?_
    exact v_zret X hr hlk dX5_turn_25 rfl ⟨rfl, rfl, rfl, rfl⟩
  exact absurd rfl hd
set_option maxRecDepth 100000 in
set_option maxHeartbeats 4000000 in
theorem mx1_clean (l : Launch) {z0 n : Nat} {D : va_G} {cy : Nat → ClassId} {ad : Nat → Nat} {x : Int32} {th : Int32} {ra le : Nat → Int32} {S : tS} {g : Nat → va_E} (hn : 61 ≤ n) (ho : ok S) (h1 : hasB (sN S) x = 0) : Ct0 l yX5_clean cX5_clean 3 (some FieldType.int) 2 43 z0 D cy n ad (gM cy ad th ra le S g) [.ref (ad 54), .int x] (some (.int 0)) (gM cy ad 1 ra le S g) := by
  refine ct_of (by decide +kernel) 1 [some (.ref (ad 54)), some (.int x), none] (Nat.le_of_ble_eq_true rfl) rfl ?_
  intro p e s m below meth c X hr hlk hnm
  refine v_aload0 X dX5_clean_0 rfl ?_
  refine v_ico (v := 0) X dX5_clean_1 (by decide) ?_
  refine pf_X5_28 X dX5_clean_2 (gM_t hn) ?_
  refine vV.gg (gM_upT) ?_
  refine v_aload0 X dX5_clean_5 rfl ?_
  refine v_iload1 X dX5_clean_6 rfl ?_
  refine cd_X5_52 X dX5_clean_7 (m_isHouse l hn ho.1) (gM_t hn) rfl (Nat.le_of_ble_eq_true rfl) ⟨(Nat.le_of_ble_eq_true rfl), (Nat.le_of_ble_eq_true rfl), (Nat.le_of_ble_eq_true rfl), (Nat.le_of_ble_eq_true rfl)⟩ ?_
  rw [h1]
  refine v_if_ne (tgt := 19) X dX5_clean_10 (by decide) (fun hb => ?_) (fun hb => ?_)
  · exact absurd rfl hb
  refine v_aload0 X dX5_clean_13 rfl ?_
  refine v_ico (v := 1) X dX5_clean_14 (by decide) ?_
  refine cd_X5_42 X dX5_clean_15 (m_fail l hn) (gM_t hn) rfl (Nat.le_of_ble_eq_true rfl) ⟨(Nat.le_of_ble_eq_true rfl), (Nat.le_of_ble_eq_true rfl), (Nat.le_of_ble_eq_true rfl), (Nat.le_of_ble_eq_true rfl)⟩ ?_
  exact v_iret X hr hlk dX5_clean_18 ⟨rfl, rfl, rfl, rfl⟩
set_option maxRecDepth 100000 in
set_option maxHeartbeats 4000000 in
theorem mx1_cart (l : Launch) {z0 n : Nat} {D : va_G} {cy : Nat → ClassId} {ad : Nat → Nat} {x y : Int32} {th : Int32} {ra le : Nat → Int32} {S : tS} {g : Nat → va_E} (hn : 61 ≤ n) (ho : ok S) (h1 : hasB (sN S) x = 0) : Ct0 l yX5_cart cX5_cart 3 (some FieldType.int) 2 65 z0 D cy n ad (gM cy ad th ra le S g) [.ref (ad 54), .int x, .int y] (some (.int 0)) (gM cy ad 1 ra le S g) := by
  refine ct_of (by decide +kernel) 0 [some (.ref (ad 54)), some (.int x), some (.int y)] (Nat.le_of_ble_eq_true rfl) rfl ?_
  intro p e s m below meth c X hr hlk hnm
  refine v_aload0 X dX5_cart_0 rfl ?_
  refine v_ico (v := 0) X dX5_cart_1 (by decide) ?_
  refine pf_X5_28 X dX5_cart_2 (gM_t hn) ?_
  refine vV.gg (gM_upT) ?_
  refine v_aload0 X dX5_cart_5 rfl ?_
  refine v_iload1 X dX5_cart_6 rfl ?_
  refine cd_X5_52 X dX5_cart_7 (m_isHouse l hn ho.1) (gM_t hn) rfl (Nat.le_of_ble_eq_true rfl) ⟨(Nat.le_of_ble_eq_true rfl), (Nat.le_of_ble_eq_true rfl), (Nat.le_of_ble_eq_true rfl), (Nat.le_of_ble_eq_true rfl)⟩ ?_
  rw [h1]
  refine v_if_ne (tgt := 19) X dX5_cart_10 (by decide) (fun hb => ?_) (fun hb => ?_)
  · exact absurd rfl hb
  refine v_aload0 X dX5_cart_13 rfl ?_
  refine v_ico (v := 1) X dX5_cart_14 (by decide) ?_
  refine cd_X5_42 X dX5_cart_15 (m_fail l hn) (gM_t hn) rfl (Nat.le_of_ble_eq_true rfl) ⟨(Nat.le_of_ble_eq_true rfl), (Nat.le_of_ble_eq_true rfl), (Nat.le_of_ble_eq_true rfl), (Nat.le_of_ble_eq_true rfl)⟩ ?_
  exact v_iret X hr hlk dX5_cart_18 ⟨rfl, rfl, rfl, rfl⟩
set_option maxRecDepth 100000 in
set_option maxHeartbeats 4000000 in
theorem mx1_setPeople (l : Launch) {z0 n : Nat} {D : va_G} {cy : Nat → ClassId} {ad : Nat → Nat} {x y : Int32} {th : Int32} {ra le : Nat → Int32} {S : tS} {g : Nat → va_E} (hn : 61 ≤ n) (ho : ok S) (h1 : hasB (sN S) x = 0) : Ct0 l yX5_setPeople cX5_setPeople 4 (some FieldType.int) 2 43 z0 D cy n ad (gM cy ad th ra le S g) [.ref (ad 54), .int x, .int y] (some (.int 0)) (gM cy ad 1 ra le S g) := by
  refine ct_of (by decide +kernel) 1 [some (.ref (ad 54)), some (.int x), some (.int y), none] (Nat.le_of_ble_eq_true rfl) rfl ?_
  intro p e s m below meth c X hr hlk hnm
  refine v_aload0 X dX5_setPeople_0 rfl ?_
  refine v_ico (v := 0) X dX5_setPeople_1 (by decide) ?_
  refine pf_X5_28 X dX5_setPeople_2 (gM_t hn) ?_
  refine vV.gg (gM_upT) ?_
  refine v_aload0 X dX5_setPeople_5 rfl ?_
  refine v_iload1 X dX5_setPeople_6 rfl ?_
  refine cd_X5_52 X dX5_setPeople_7 (m_isHouse l hn ho.1) (gM_t hn) rfl (Nat.le_of_ble_eq_true rfl) ⟨(Nat.le_of_ble_eq_true rfl), (Nat.le_of_ble_eq_true rfl), (Nat.le_of_ble_eq_true rfl), (Nat.le_of_ble_eq_true rfl)⟩ ?_
  rw [h1]
  refine v_if_ne (tgt := 19) X dX5_setPeople_10 (by decide) (fun hb => ?_) (fun hb => ?_)
  · exact absurd rfl hb
  refine v_aload0 X dX5_setPeople_13 rfl ?_
  refine v_ico (v := 1) X dX5_setPeople_14 (by decide) ?_
  refine cd_X5_42 X dX5_setPeople_15 (m_fail l hn) (gM_t hn) rfl (Nat.le_of_ble_eq_true rfl) ⟨(Nat.le_of_ble_eq_true rfl), (Nat.le_of_ble_eq_true rfl), (Nat.le_of_ble_eq_true rfl), (Nat.le_of_ble_eq_true rfl)⟩ ?_
  exact v_iret X hr hlk dX5_setPeople_18 ⟨rfl, rfl, rfl, rfl⟩
set_option maxRecDepth 100000 in
set_option maxHeartbeats 4000000 in
theorem m_clean (l : Launch) {z0 n : Nat} {D : va_G} {cy : Nat → ClassId} {ad : Nat → Nat} {h : Nat} {th : Int32} {ra le : Nat → Int32} {S : tS} {g : Nat → va_E} (hn : 61 ≤ n) (ho : ok S) (hh : h < sN S) : Ct0 l yX5_clean cX5_clean 3 (some FieldType.int) 2 43 z0 D cy n ad (gM cy ad th ra le S g) [.ref (ad 54), .int (nI h)] (some (.int (sH S h 5))) (gM cy ad 0 ra le (clT h S) g) := by
  refine ct_of (by decide +kernel) 1 [some (.ref (ad 54)), some (.int (nI h)), none] (Nat.le_of_ble_eq_true rfl) rfl ?_
  intro p e s m below meth c X hr hlk hnm
  have hN := ho.1
  refine v_aload0 X dX5_clean_0 rfl ?_
  refine v_ico (v := 0) X dX5_clean_1 (by decide) ?_
  refine pf_X5_28 X dX5_clean_2 (gM_t hn) ?_
  refine vV.gg (gM_upT) ?_
  refine v_aload0 X dX5_clean_5 rfl ?_
  refine v_iload1 X dX5_clean_6 rfl ?_
  refine cd_X5_52 X dX5_clean_7 (m_isHouse l hn hN) (gM_t hn) rfl (Nat.le_of_ble_eq_true rfl) ⟨(Nat.le_of_ble_eq_true rfl), (Nat.le_of_ble_eq_true rfl), (Nat.le_of_ble_eq_true rfl), (Nat.le_of_ble_eq_true rfl)⟩ ?_
  rw [hasB_1 hh (by omega)]
  refine v_if_ne (tgt := 19) X dX5_clean_10 (by decide) (fun hb => ?_) (fun hb => ?_)
  rotate_left
  · exact absurd hb (by decide)
  refine v_aload0 X dX5_clean_19 rfl ?_
  refine v_iload1 X dX5_clean_20 rfl ?_
  refine v_ico (v := 5) X dX5_clean_21 (by decide) ?_
  refine cd_X5_56 X dX5_clean_22 (m_ho l (w := 5) hn hN hh (by decide)) (gM_t hn) rfl (Nat.le_of_ble_eq_true rfl) ⟨(Nat.le_of_ble_eq_true rfl), (Nat.le_of_ble_eq_true rfl), (Nat.le_of_ble_eq_true rfl), (Nat.le_of_ble_eq_true rfl)⟩ ?_
  refine v_istore2 X rfl (Nat.le_of_ble_eq_true rfl) dX5_clean_25 ?_
  refine v_aload0 X dX5_clean_26 rfl ?_
  refine v_iload1 X dX5_clean_27 rfl ?_
  refine v_ico (v := 5) X dX5_clean_28 (by decide) ?_
  refine v_ico (v := 0) X dX5_clean_29 (by decide) ?_
  refine cd_X5_60 X dX5_clean_30 (m_set l (w := 5) hn hN hh (by decide)) (gM_t hn) rfl (Nat.le_of_ble_eq_true rfl) ⟨(Nat.le_of_ble_eq_true rfl), (Nat.le_of_ble_eq_true rfl), (Nat.le_of_ble_eq_true rfl), (Nat.le_of_ble_eq_true rfl)⟩ ?_
  refine v_iload2 X dX5_clean_33 rfl ?_
  exact v_iret X hr hlk dX5_clean_34 ⟨rfl, rfl, rfl, rfl⟩
set_option maxRecDepth 100000 in
set_option maxHeartbeats 4000000 in
theorem mx2_cart (l : Launch) {z0 n : Nat} {D : va_G} {cy : Nat → ClassId} {ad : Nat → Nat} {x y : Int32} {th : Int32} {ra le : Nat → Int32} {S : tS} {g : Nat → va_E} (hn : 61 ≤ n) (ho : ok S) (h1 : hasB (sN S) x = 1) (h2 : ¬ IN y 1 500) : Ct0 l yX5_cart cX5_cart 3 (some FieldType.int) 2 65 z0 D cy n ad (gM cy ad th ra le S g) [.ref (ad 54), .int x, .int y] (some (.int 0)) (gM cy ad 2 ra le S g) := by
  refine ct_of (by decide +kernel) 0 [some (.ref (ad 54)), some (.int x), some (.int y)] (Nat.le_of_ble_eq_true rfl) rfl ?_
  intro p e s m below meth c X hr hlk hnm
  refine v_aload0 X dX5_cart_0 rfl ?_
  refine v_ico (v := 0) X dX5_cart_1 (by decide) ?_
  refine pf_X5_28 X dX5_cart_2 (gM_t hn) ?_
  refine vV.gg (gM_upT) ?_
  refine v_aload0 X dX5_cart_5 rfl ?_
  refine v_iload1 X dX5_cart_6 rfl ?_
  refine cd_X5_52 X dX5_cart_7 (m_isHouse l hn ho.1) (gM_t hn) rfl (Nat.le_of_ble_eq_true rfl) ⟨(Nat.le_of_ble_eq_true rfl), (Nat.le_of_ble_eq_true rfl), (Nat.le_of_ble_eq_true rfl), (Nat.le_of_ble_eq_true rfl)⟩ ?_
  rw [h1]
  refine v_if_ne (tgt := 19) X dX5_cart_10 (by decide) (fun hb => ?_) (fun hb => ?_)
  rotate_left
  · exact absurd hb (by decide)
  refine v_iload2 X dX5_cart_19 rfl ?_
  refine v_ico (v := 1) X dX5_cart_20 (by decide) ?_
  refine v_sip (v := 500) X dX5_cart_21 (by decide) ?_
  refine cd_X5_35 X dX5_cart_24 (m_isIn l) (Nat.le_of_ble_eq_true rfl) ⟨(Nat.le_of_ble_eq_true rfl), (Nat.le_of_ble_eq_true rfl), (Nat.le_of_ble_eq_true rfl), (Nat.le_of_ble_eq_true rfl)⟩ ?_
  rw [inB_0 h2]
  refine v_if_ne (tgt := 36) X dX5_cart_27 (by decide) (fun hc => ?_) (fun hc => ?_)
  · exact absurd rfl hc
  refine v_aload0 X dX5_cart_30 rfl ?_
  refine v_ico (v := 2) X dX5_cart_31 (by decide) ?_
  refine cd_X5_42 X dX5_cart_32 (m_fail l hn) (gM_t hn) rfl (Nat.le_of_ble_eq_true rfl) ⟨(Nat.le_of_ble_eq_true rfl), (Nat.le_of_ble_eq_true rfl), (Nat.le_of_ble_eq_true rfl), (Nat.le_of_ble_eq_true rfl)⟩ ?_
  exact v_iret X hr hlk dX5_cart_35 ⟨rfl, rfl, rfl, rfl⟩
set_option maxRecDepth 100000 in
set_option maxHeartbeats 4000000 in
theorem mx2_setPeople (l : Launch) {z0 n : Nat} {D : va_G} {cy : Nat → ClassId} {ad : Nat → Nat} {x y : Int32} {th : Int32} {ra le : Nat → Int32} {S : tS} {g : Nat → va_E} (hn : 61 ≤ n) (ho : ok S) (h1 : hasB (sN S) x = 1) (h2 : ¬ IN y 0 9) : Ct0 l yX5_setPeople cX5_setPeople 4 (some FieldType.int) 2 43 z0 D cy n ad (gM cy ad th ra le S g) [.ref (ad 54), .int x, .int y] (some (.int 0)) (gM cy ad 2 ra le S g) := by
  refine ct_of (by decide +kernel) 1 [some (.ref (ad 54)), some (.int x), some (.int y), none] (Nat.le_of_ble_eq_true rfl) rfl ?_
  intro p e s m below meth c X hr hlk hnm
  refine v_aload0 X dX5_setPeople_0 rfl ?_
  refine v_ico (v := 0) X dX5_setPeople_1 (by decide) ?_
  refine pf_X5_28 X dX5_setPeople_2 (gM_t hn) ?_
  refine vV.gg (gM_upT) ?_
  refine v_aload0 X dX5_setPeople_5 rfl ?_
  refine v_iload1 X dX5_setPeople_6 rfl ?_
  refine cd_X5_52 X dX5_setPeople_7 (m_isHouse l hn ho.1) (gM_t hn) rfl (Nat.le_of_ble_eq_true rfl) ⟨(Nat.le_of_ble_eq_true rfl), (Nat.le_of_ble_eq_true rfl), (Nat.le_of_ble_eq_true rfl), (Nat.le_of_ble_eq_true rfl)⟩ ?_
  rw [h1]
  refine v_if_ne (tgt := 19) X dX5_setPeople_10 (by decide) (fun hb => ?_) (fun hb => ?_)
  rotate_left
  · exact absurd hb (by decide)
  refine v_iload2 X dX5_setPeople_19 rfl ?_
  refine v_ico (v := 0) X dX5_setPeople_20 (by decide) ?_
  refine v_bip (v := 9) X dX5_setPeople_21 (by decide) ?_
  refine cd_X5_35 X dX5_setPeople_23 (m_isIn l) (Nat.le_of_ble_eq_true rfl) ⟨(Nat.le_of_ble_eq_true rfl), (Nat.le_of_ble_eq_true rfl), (Nat.le_of_ble_eq_true rfl), (Nat.le_of_ble_eq_true rfl)⟩ ?_
  rw [inB_0 h2]
  refine v_if_ne (tgt := 35) X dX5_setPeople_26 (by decide) (fun hc => ?_) (fun hc => ?_)
  · exact absurd rfl hc
  refine v_aload0 X dX5_setPeople_29 rfl ?_
  refine v_ico (v := 2) X dX5_setPeople_30 (by decide) ?_
  refine cd_X5_42 X dX5_setPeople_31 (m_fail l hn) (gM_t hn) rfl (Nat.le_of_ble_eq_true rfl) ⟨(Nat.le_of_ble_eq_true rfl), (Nat.le_of_ble_eq_true rfl), (Nat.le_of_ble_eq_true rfl), (Nat.le_of_ble_eq_true rfl)⟩ ?_
  exact v_iret X hr hlk dX5_setPeople_34 ⟨rfl, rfl, rfl, rfl⟩
set_option maxRecDepth 100000 in
set_option maxHeartbeats 4000000 in
theorem m_cart (l : Launch) {z0 n : Nat} {D : va_G} {cy : Nat → ClassId} {ad : Nat → Nat} {h : Nat} {w : Int32} {th : Int32} {ra le : Nat → Int32} {S : tS} {g : Nat → va_E} (hn : 61 ≤ n) (ho : ok S) (hh : h < sN S) (hw : IN w 1 500) : Ct0 l yX5_cart cX5_cart 3 (some FieldType.int) 2 65 z0 D cy n ad (gM cy ad th ra le S g) [.ref (ad 54), .int (nI h), .int w] (some (.int (pourA (caT w S) (nI h) w))) (gM cy ad 0 ra le (pourT (caT w S) (nI h) w) g) := by
  refine ct_of (by decide +kernel) 0 [some (.ref (ad 54)), some (.int (nI h)), some (.int w)] (Nat.le_of_ble_eq_true rfl) rfl ?_
  intro p e s m below meth c X hr hlk hnm
  have hN := ho.1
  obtain ⟨k, -, hk⟩ := ok_ter ho hh
  refine v_aload0 X dX5_cart_0 rfl ?_
  refine v_ico (v := 0) X dX5_cart_1 (by decide) ?_
  refine pf_X5_28 X dX5_cart_2 (gM_t hn) ?_
  refine vV.gg (gM_upT) ?_
  refine v_aload0 X dX5_cart_5 rfl ?_
  refine v_iload1 X dX5_cart_6 rfl ?_
  refine cd_X5_52 X dX5_cart_7 (m_isHouse l hn hN) (gM_t hn) rfl (Nat.le_of_ble_eq_true rfl) ⟨(Nat.le_of_ble_eq_true rfl), (Nat.le_of_ble_eq_true rfl), (Nat.le_of_ble_eq_true rfl), (Nat.le_of_ble_eq_true rfl)⟩ ?_
  rw [hasB_1 hh (by omega)]
  refine v_if_ne (tgt := 19) X dX5_cart_10 (by decide) (fun hb => ?_) (fun hb => ?_)
  rotate_left
  · exact absurd hb (by decide)
  refine v_iload2 X dX5_cart_19 rfl ?_
  refine v_ico (v := 1) X dX5_cart_20 (by decide) ?_
  refine v_sip (v := 500) X dX5_cart_21 (by decide) ?_
  refine cd_X5_35 X dX5_cart_24 (m_isIn l) (Nat.le_of_ble_eq_true rfl) ⟨(Nat.le_of_ble_eq_true rfl), (Nat.le_of_ble_eq_true rfl), (Nat.le_of_ble_eq_true rfl), (Nat.le_of_ble_eq_true rfl)⟩ ?_
  refine v_if_ne (tgt := 36) X dX5_cart_27 (by decide) (fun hc => ?_) (fun hc => ?_)
  rotate_left
  · exact absurd hc (inB_ne hw)
  refine v_aload0 X dX5_cart_36 rfl ?_
  refine gf_X5_25 X dX5_cart_37 (gM_t hn) ?_
  refine v_ico (v := 4) X dX5_cart_40 (by decide) ?_
  refine v_dup2 X dX5_cart_41 rfl rfl ?_
  refine v_iald X dX5_cart_42 (gM_m hn) rfl (by decide) (by decide) ?_
  refine v_iload2 X dX5_cart_43 rfl ?_
  refine v_iadd X dX5_cart_44 ?_
  refine v_iast X dX5_cart_45 (gM_m hn) rfl (by decide) (by decide) ?_
  refine vV.gg (gM_upM) ?_
  refine v_aload0 X dX5_cart_46 rfl ?_
  refine v_iload1 X dX5_cart_47 rfl ?_
  refine v_iload2 X dX5_cart_48 rfl ?_
  refine cd_X5_75 X dX5_cart_49 (m_pour l (S := caT w S) hn hN hk) (gM_t hn) rfl (Nat.le_of_ble_eq_true rfl) ⟨(Nat.le_of_ble_eq_true rfl), (Nat.le_of_ble_eq_true rfl), (Nat.le_of_ble_eq_true rfl), (Nat.le_of_ble_eq_true rfl)⟩ ?_
  exact v_iret X hr hlk dX5_cart_52 ⟨rfl, rfl, rfl, rfl⟩
set_option maxRecDepth 100000 in
set_option maxHeartbeats 4000000 in
theorem m_setPeople (l : Launch) {z0 n : Nat} {D : va_G} {cy : Nat → ClassId} {ad : Nat → Nat} {h : Nat} {w : Int32} {th : Int32} {ra le : Nat → Int32} {S : tS} {g : Nat → va_E} (hn : 61 ≤ n) (ho : ok S) (hh : h < sN S) (hw : IN w 0 9) : Ct0 l yX5_setPeople cX5_setPeople 4 (some FieldType.int) 2 43 z0 D cy n ad (gM cy ad th ra le S g) [.ref (ad 54), .int (nI h), .int w] (some (.int (sH S h 3))) (gM cy ad 0 ra le (peT h w S) g) := by
  refine ct_of (by decide +kernel) 1 [some (.ref (ad 54)), some (.int (nI h)), some (.int w), none] (Nat.le_of_ble_eq_true rfl) rfl ?_
  intro p e s m below meth c X hr hlk hnm
  have hN := ho.1
  refine v_aload0 X dX5_setPeople_0 rfl ?_
  refine v_ico (v := 0) X dX5_setPeople_1 (by decide) ?_
  refine pf_X5_28 X dX5_setPeople_2 (gM_t hn) ?_
  refine vV.gg (gM_upT) ?_
  refine v_aload0 X dX5_setPeople_5 rfl ?_
  refine v_iload1 X dX5_setPeople_6 rfl ?_
  refine cd_X5_52 X dX5_setPeople_7 (m_isHouse l hn hN) (gM_t hn) rfl (Nat.le_of_ble_eq_true rfl) ⟨(Nat.le_of_ble_eq_true rfl), (Nat.le_of_ble_eq_true rfl), (Nat.le_of_ble_eq_true rfl), (Nat.le_of_ble_eq_true rfl)⟩ ?_
  rw [hasB_1 hh (by omega)]
  refine v_if_ne (tgt := 19) X dX5_setPeople_10 (by decide) (fun hb => ?_) (fun hb => ?_)
  rotate_left
  · exact absurd hb (by decide)
  refine v_iload2 X dX5_setPeople_19 rfl ?_
  refine v_ico (v := 0) X dX5_setPeople_20 (by decide) ?_
  refine v_bip (v := 9) X dX5_setPeople_21 (by decide) ?_
  refine cd_X5_35 X dX5_setPeople_23 (m_isIn l) (Nat.le_of_ble_eq_true rfl) ⟨(Nat.le_of_ble_eq_true rfl), (Nat.le_of_ble_eq_true rfl), (Nat.le_of_ble_eq_true rfl), (Nat.le_of_ble_eq_true rfl)⟩ ?_
  refine v_if_ne (tgt := 35) X dX5_setPeople_26 (by decide) (fun hc => ?_) (fun hc => ?_)
  rotate_left
  · exact absurd hc (inB_ne hw)
  refine v_aload0 X dX5_setPeople_35 rfl ?_
  refine v_iload1 X dX5_setPeople_36 rfl ?_
  refine v_ico (v := 3) X dX5_setPeople_37 (by decide) ?_
  refine cd_X5_56 X dX5_setPeople_38 (m_ho l (w := 3) hn hN hh (by decide)) (gM_t hn) rfl (Nat.le_of_ble_eq_true rfl) ⟨(Nat.le_of_ble_eq_true rfl), (Nat.le_of_ble_eq_true rfl), (Nat.le_of_ble_eq_true rfl), (Nat.le_of_ble_eq_true rfl)⟩ ?_
  refine v_istore3 X rfl (Nat.le_of_ble_eq_true rfl) dX5_setPeople_41 ?_
  refine v_aload0 X dX5_setPeople_42 rfl ?_
  refine v_iload1 X dX5_setPeople_43 rfl ?_
  refine v_ico (v := 3) X dX5_setPeople_44 (by decide) ?_
  refine v_iload2 X dX5_setPeople_45 rfl ?_
  refine cd_X5_60 X dX5_setPeople_46 (m_set l (w := 3) hn hN hh (by decide)) (gM_t hn) rfl (Nat.le_of_ble_eq_true rfl) ⟨(Nat.le_of_ble_eq_true rfl), (Nat.le_of_ble_eq_true rfl), (Nat.le_of_ble_eq_true rfl), (Nat.le_of_ble_eq_true rfl)⟩ ?_
  refine v_iload3 X dX5_setPeople_49 rfl ?_
  exact v_iret X hr hlk dX5_setPeople_50 ⟨rfl, rfl, rfl, rfl⟩
set_option maxRecDepth 100000 in
set_option maxHeartbeats 4000000 in
theorem m_house (l : Launch) {z0 n : Nat} {D : va_G} {cy : Nat → ClassId} {ad : Nat → Nat} {h j : Nat} {th : Int32} {ra le : Nat → Int32} {S : tS} {g : Nat → va_E} (hn : 61 ≤ n) (ho : ok S) (hh : h < sN S) (hj : j < 10) (hw : IN (nI j) 0 9) : Ct0 l yX5_house cX5_house 3 (some FieldType.int) 2 43 z0 D cy n ad (gM cy ad th ra le S g) [.ref (ad 54), .int (nI h), .int (nI j)] (some (.int (sH S h j))) (gM cy ad 0 ra le S g) := by
  refine ct_of (by decide +kernel) 0 [some (.ref (ad 54)), some (.int (nI h)), some (.int (nI j))] (Nat.le_of_ble_eq_true rfl) rfl ?_
  intro p e s m below meth c X hr hlk hnm
  have hN := ho.1
  refine v_aload0 X dX5_house_0 rfl ?_
  refine v_ico (v := 0) X dX5_house_1 (by decide) ?_
  refine pf_X5_28 X dX5_house_2 (gM_t hn) ?_
  refine vV.gg (gM_upT) ?_
  refine v_aload0 X dX5_house_5 rfl ?_
  refine v_iload1 X dX5_house_6 rfl ?_
  refine cd_X5_52 X dX5_house_7 (m_isHouse l hn hN) (gM_t hn) rfl (Nat.le_of_ble_eq_true rfl) ⟨(Nat.le_of_ble_eq_true rfl), (Nat.le_of_ble_eq_true rfl), (Nat.le_of_ble_eq_true rfl), (Nat.le_of_ble_eq_true rfl)⟩ ?_
  rw [hasB_1 hh (by omega)]
  refine v_if_eq (tgt := 32) X dX5_house_10 (by decide) (fun hb => ?_) (fun hb => ?_)
  · exact absurd hb (by decide)
  refine v_iload2 X dX5_house_13 rfl ?_
  refine v_ico (v := 0) X dX5_house_14 (by decide) ?_
  refine v_bip (v := 9) X dX5_house_15 (by decide) ?_
  refine cd_X5_35 X dX5_house_17 (m_isIn l) (Nat.le_of_ble_eq_true rfl) ⟨(Nat.le_of_ble_eq_true rfl), (Nat.le_of_ble_eq_true rfl), (Nat.le_of_ble_eq_true rfl), (Nat.le_of_ble_eq_true rfl)⟩ ?_
  refine v_if_eq (tgt := 32) X dX5_house_20 (by decide) (fun hc => ?_) (fun hc => ?_)
  · exact absurd hc (inB_ne hw)
  refine v_aload0 X dX5_house_23 rfl ?_
  refine v_iload1 X dX5_house_24 rfl ?_
  refine v_iload2 X dX5_house_25 rfl ?_
  refine cd_X5_56 X dX5_house_26 (m_ho l (w := j) hn hN hh hj) (gM_t hn) rfl (Nat.le_of_ble_eq_true rfl) ⟨(Nat.le_of_ble_eq_true rfl), (Nat.le_of_ble_eq_true rfl), (Nat.le_of_ble_eq_true rfl), (Nat.le_of_ble_eq_true rfl)⟩ ?_
  refine v_goto (tgt := 37) X dX5_house_29 (by decide) ?_
  exact v_iret X hr hlk dX5_house_37 ⟨rfl, rfl, rfl, rfl⟩
set_option maxRecDepth 100000 in
set_option maxHeartbeats 4000000 in
theorem mx1_house (l : Launch) {z0 n : Nat} {D : va_G} {cy : Nat → ClassId} {ad : Nat → Nat} {x y : Int32} {th : Int32} {ra le : Nat → Int32} {S : tS} {g : Nat → va_E} (hn : 61 ≤ n) (ho : ok S) (h1 : hasB (sN S) x = 0 ∨ ¬ IN y 0 9) : Ct0 l yX5_house cX5_house 3 (some FieldType.int) 2 43 z0 D cy n ad (gM cy ad th ra le S g) [.ref (ad 54), .int x, .int y] (some (.int 0)) (gM cy ad 1 ra le S g) := by
  refine ct_of (by decide +kernel) 0 [some (.ref (ad 54)), some (.int x), some (.int y)] (Nat.le_of_ble_eq_true rfl) rfl ?_
  intro p e s m below meth c X hr hlk hnm
  refine v_aload0 X dX5_house_0 rfl ?_
  refine v_ico (v := 0) X dX5_house_1 (by decide) ?_
  refine pf_X5_28 X dX5_house_2 (gM_t hn) ?_
  refine vV.gg (gM_upT) ?_
  refine v_aload0 X dX5_house_5 rfl ?_
  refine v_iload1 X dX5_house_6 rfl ?_
  refine cd_X5_52 X dX5_house_7 (m_isHouse l hn ho.1) (gM_t hn) rfl (Nat.le_of_ble_eq_true rfl) ⟨(Nat.le_of_ble_eq_true rfl), (Nat.le_of_ble_eq_true rfl), (Nat.le_of_ble_eq_true rfl), (Nat.le_of_ble_eq_true rfl)⟩ ?_
  refine v_if_eq (tgt := 32) X dX5_house_10 (by decide) (fun hb => ?_) (fun hb => ?_)
  · refine v_aload0 X dX5_house_32 rfl ?_
    refine v_ico (v := 1) X dX5_house_33 (by decide) ?_
    refine cd_X5_42 X dX5_house_34 (m_fail l hn) (gM_t hn) rfl (Nat.le_of_ble_eq_true rfl) ⟨(Nat.le_of_ble_eq_true rfl), (Nat.le_of_ble_eq_true rfl), (Nat.le_of_ble_eq_true rfl), (Nat.le_of_ble_eq_true rfl)⟩ ?_
    exact v_iret X hr hlk dX5_house_37 ⟨rfl, rfl, rfl, rfl⟩
  refine v_iload2 X dX5_house_13 rfl ?_
  refine v_ico (v := 0) X dX5_house_14 (by decide) ?_
  refine v_bip (v := 9) X dX5_house_15 (by decide) ?_
  refine cd_X5_35 X dX5_house_17 (m_isIn l) (Nat.le_of_ble_eq_true rfl) ⟨(Nat.le_of_ble_eq_true rfl), (Nat.le_of_ble_eq_true rfl), (Nat.le_of_ble_eq_true rfl), (Nat.le_of_ble_eq_true rfl)⟩ ?_
  refine v_if_eq (tgt := 32) X dX5_house_20 (by decide) (fun hc => ?_) (fun hc => ?_)
  · refine v_aload0 X dX5_house_32 rfl ?_
    refine v_ico (v := 1) X dX5_house_33 (by decide) ?_
    refine cd_X5_42 X dX5_house_34 (m_fail l hn) (gM_t hn) rfl (Nat.le_of_ble_eq_true rfl) ⟨(Nat.le_of_ble_eq_true rfl), (Nat.le_of_ble_eq_true rfl), (Nat.le_of_ble_eq_true rfl), (Nat.le_of_ble_eq_true rfl)⟩ ?_
    exact v_iret X hr hlk dX5_house_37 ⟨rfl, rfl, rfl, rfl⟩
  rcases h1 with h1 | h1
  · exact absurd h1 hb
  · exact absurd (IN_of hc) h1
set_option maxRecDepth 100000 in
set_option maxHeartbeats 4000000 in
theorem m_pipe (l : Launch) {z0 n : Nat} {D : va_G} {cy : Nat → ClassId} {ad : Nat → Nat} {h j : Nat} {th : Int32} {ra le : Nat → Int32} {S : tS} {g : Nat → va_E} (hn : 61 ≤ n) (ho : ok S) (hh : h < sP S) (hj : j < 5) (hw : IN (nI j) 0 4) : Ct0 l yX5_pipe cX5_pipe 3 (some FieldType.int) 2 43 z0 D cy n ad (gM cy ad th ra le S g) [.ref (ad 54), .int (nI h), .int (nI j)] (some (.int (sQ S h j))) (gM cy ad 0 ra le S g) := by
  refine ct_of (by decide +kernel) 0 [some (.ref (ad 54)), some (.int (nI h)), some (.int (nI j))] (Nat.le_of_ble_eq_true rfl) rfl ?_
  intro p e s m below meth c X hr hlk hnm
  have hN := ho.2.1
  refine v_aload0 X dX5_pipe_0 rfl ?_
  refine v_ico (v := 0) X dX5_pipe_1 (by decide) ?_
  refine pf_X5_28 X dX5_pipe_2 (gM_t hn) ?_
  refine vV.gg (gM_upT) ?_
  refine v_aload0 X dX5_pipe_5 rfl ?_
  refine v_iload1 X dX5_pipe_6 rfl ?_
  refine cd_X5_64 X dX5_pipe_7 (m_isPipe l hn hN) (gM_t hn) rfl (Nat.le_of_ble_eq_true rfl) ⟨(Nat.le_of_ble_eq_true rfl), (Nat.le_of_ble_eq_true rfl), (Nat.le_of_ble_eq_true rfl), (Nat.le_of_ble_eq_true rfl)⟩ ?_
  rw [hasB_1 hh (by omega)]
  refine v_if_eq (tgt := 31) X dX5_pipe_10 (by decide) (fun hb => ?_) (fun hb => ?_)
  · exact absurd hb (by decide)
  refine v_iload2 X dX5_pipe_13 rfl ?_
  refine v_ico (v := 0) X dX5_pipe_14 (by decide) ?_
  refine v_ico (v := 4) X dX5_pipe_15 (by decide) ?_
  refine cd_X5_35 X dX5_pipe_16 (m_isIn l) (Nat.le_of_ble_eq_true rfl) ⟨(Nat.le_of_ble_eq_true rfl), (Nat.le_of_ble_eq_true rfl), (Nat.le_of_ble_eq_true rfl), (Nat.le_of_ble_eq_true rfl)⟩ ?_
  refine v_if_eq (tgt := 31) X dX5_pipe_19 (by decide) (fun hc => ?_) (fun hc => ?_)
  · exact absurd hc (inB_ne hw)
  refine v_aload0 X dX5_pipe_22 rfl ?_
  refine v_iload1 X dX5_pipe_23 rfl ?_
  refine v_iload2 X dX5_pipe_24 rfl ?_
  refine cd_X5_67 X dX5_pipe_25 (m_pi l (w := j) hn hN hh hj) (gM_t hn) rfl (Nat.le_of_ble_eq_true rfl) ⟨(Nat.le_of_ble_eq_true rfl), (Nat.le_of_ble_eq_true rfl), (Nat.le_of_ble_eq_true rfl), (Nat.le_of_ble_eq_true rfl)⟩ ?_
  refine v_goto (tgt := 36) X dX5_pipe_28 (by decide) ?_
  exact v_iret X hr hlk dX5_pipe_36 ⟨rfl, rfl, rfl, rfl⟩
set_option maxRecDepth 100000 in
set_option maxHeartbeats 4000000 in
theorem mx1_pipe (l : Launch) {z0 n : Nat} {D : va_G} {cy : Nat → ClassId} {ad : Nat → Nat} {x y : Int32} {th : Int32} {ra le : Nat → Int32} {S : tS} {g : Nat → va_E} (hn : 61 ≤ n) (ho : ok S) (h1 : hasB (sP S) x = 0 ∨ ¬ IN y 0 4) : Ct0 l yX5_pipe cX5_pipe 3 (some FieldType.int) 2 43 z0 D cy n ad (gM cy ad th ra le S g) [.ref (ad 54), .int x, .int y] (some (.int 0)) (gM cy ad 1 ra le S g) := by
  refine ct_of (by decide +kernel) 0 [some (.ref (ad 54)), some (.int x), some (.int y)] (Nat.le_of_ble_eq_true rfl) rfl ?_
  intro p e s m below meth c X hr hlk hnm
  refine v_aload0 X dX5_pipe_0 rfl ?_
  refine v_ico (v := 0) X dX5_pipe_1 (by decide) ?_
  refine pf_X5_28 X dX5_pipe_2 (gM_t hn) ?_
  refine vV.gg (gM_upT) ?_
  refine v_aload0 X dX5_pipe_5 rfl ?_
  refine v_iload1 X dX5_pipe_6 rfl ?_
  refine cd_X5_64 X dX5_pipe_7 (m_isPipe l hn ho.2.1) (gM_t hn) rfl (Nat.le_of_ble_eq_true rfl) ⟨(Nat.le_of_ble_eq_true rfl), (Nat.le_of_ble_eq_true rfl), (Nat.le_of_ble_eq_true rfl), (Nat.le_of_ble_eq_true rfl)⟩ ?_
  refine v_if_eq (tgt := 31) X dX5_pipe_10 (by decide) (fun hb => ?_) (fun hb => ?_)
  · refine v_aload0 X dX5_pipe_31 rfl ?_
    refine v_ico (v := 1) X dX5_pipe_32 (by decide) ?_
    refine cd_X5_42 X dX5_pipe_33 (m_fail l hn) (gM_t hn) rfl (Nat.le_of_ble_eq_true rfl) ⟨(Nat.le_of_ble_eq_true rfl), (Nat.le_of_ble_eq_true rfl), (Nat.le_of_ble_eq_true rfl), (Nat.le_of_ble_eq_true rfl)⟩ ?_
    exact v_iret X hr hlk dX5_pipe_36 ⟨rfl, rfl, rfl, rfl⟩
  refine v_iload2 X dX5_pipe_13 rfl ?_
  refine v_ico (v := 0) X dX5_pipe_14 (by decide) ?_
  refine v_ico (v := 4) X dX5_pipe_15 (by decide) ?_
  refine cd_X5_35 X dX5_pipe_16 (m_isIn l) (Nat.le_of_ble_eq_true rfl) ⟨(Nat.le_of_ble_eq_true rfl), (Nat.le_of_ble_eq_true rfl), (Nat.le_of_ble_eq_true rfl), (Nat.le_of_ble_eq_true rfl)⟩ ?_
  refine v_if_eq (tgt := 31) X dX5_pipe_19 (by decide) (fun hc => ?_) (fun hc => ?_)
  · refine v_aload0 X dX5_pipe_31 rfl ?_
    refine v_ico (v := 1) X dX5_pipe_32 (by decide) ?_
    refine cd_X5_42 X dX5_pipe_33 (m_fail l hn) (gM_t hn) rfl (Nat.le_of_ble_eq_true rfl) ⟨(Nat.le_of_ble_eq_true rfl), (Nat.le_of_ble_eq_true rfl), (Nat.le_of_ble_eq_true rfl), (Nat.le_of_ble_eq_true rfl)⟩ ?_
    exact v_iret X hr hlk dX5_pipe_36 ⟨rfl, rfl, rfl, rfl⟩
  rcases h1 with h1 | h1
  · exact absurd h1 hb
  · exact absurd (IN_of hc) h1
set_option maxRecDepth 100000 in
set_option maxHeartbeats 4000000 in
theorem m_debt (l : Launch) {z0 n : Nat} {D : va_G} {cy : Nat → ClassId} {ad : Nat → Nat} {a b : Nat} {th : Int32} {ra le : Nat → Int32} {S : tS} {g : Nat → va_E} (hn : 61 ≤ n) (ha : a < 10) (hb : b < 10) : Ct0 l yX5_debt cX5_debt 3 (some FieldType.int) 0 0 z0 D cy n ad (gM cy ad th ra le S g) [.ref (ad 54), .int (nI a), .int (nI b)] (some (.int (sF S (10 * a + b) - sF S (10 * b + a)))) (gM cy ad th ra le S g) := by
  refine ct_of (by decide +kernel) 0 [some (.ref (ad 54)), some (.int (nI a)), some (.int (nI b))] (Nat.le_of_ble_eq_true rfl) rfl ?_
  intro p e s m below meth c X hr hlk hnm
  refine v_aload0 X dX5_debt_0 rfl ?_
  refine gf_X5_22 X dX5_debt_1 (gM_t hn) ?_
  refine v_bip (v := 10) X dX5_debt_4 (by decide) ?_
  refine v_iload1 X dX5_debt_6 rfl ?_
  refine v_imul X dX5_debt_7 ?_
  refine v_iload2 X dX5_debt_8 rfl ?_
  refine v_iadd X dX5_debt_9 ?_
  refine v_iald X dX5_debt_10 (gM_f hn) (ix10 a b) (by omega) (by decide) ?_
  refine v_aload0 X dX5_debt_11 rfl ?_
  refine gf_X5_22 X dX5_debt_12 (gM_t hn) ?_
  refine v_bip (v := 10) X dX5_debt_15 (by decide) ?_
  refine v_iload2 X dX5_debt_17 rfl ?_
  refine v_imul X dX5_debt_18 ?_
  refine v_iload1 X dX5_debt_19 rfl ?_
  refine v_iadd X dX5_debt_20 ?_
  refine v_iald X dX5_debt_21 (gM_f hn) (ix10 b a) (by omega) (by decide) ?_
  refine v_isub X dX5_debt_22 ?_
  exact v_iret X hr hlk dX5_debt_23 ⟨rfl, rfl, rfl, rfl⟩
set_option maxRecDepth 100000 in
set_option maxHeartbeats 4000000 in
theorem m_owes (l : Launch) {z0 n : Nat} {D : va_G} {cy : Nat → ClassId} {ad : Nat → Nat} {a b : Nat} {th : Int32} {ra le : Nat → Int32} {S : tS} {g : Nat → va_E} (hn : 61 ≤ n) (ho : ok S) (ha : a < sN S) (hb' : b < sN S) : Ct0 l yX5_owes cX5_owes 3 (some FieldType.int) 2 43 z0 D cy n ad (gM cy ad th ra le S g) [.ref (ad 54), .int (nI a), .int (nI b)] (some (.int (sF S (10 * a + b) - sF S (10 * b + a)))) (gM cy ad 0 ra le S g) := by
  refine ct_of (by decide +kernel) 0 [some (.ref (ad 54)), some (.int (nI a)), some (.int (nI b))] (Nat.le_of_ble_eq_true rfl) rfl ?_
  intro p e s m below meth c X hr hlk hnm
  have hN := ho.1
  refine v_aload0 X dX5_owes_0 rfl ?_
  refine v_ico (v := 0) X dX5_owes_1 (by decide) ?_
  refine pf_X5_28 X dX5_owes_2 (gM_t hn) ?_
  refine vV.gg (gM_upT) ?_
  refine v_aload0 X dX5_owes_5 rfl ?_
  refine v_iload1 X dX5_owes_6 rfl ?_
  refine cd_X5_52 X dX5_owes_7 (m_isHouse l hn hN) (gM_t hn) rfl (Nat.le_of_ble_eq_true rfl) ⟨(Nat.le_of_ble_eq_true rfl), (Nat.le_of_ble_eq_true rfl), (Nat.le_of_ble_eq_true rfl), (Nat.le_of_ble_eq_true rfl)⟩ ?_
  rw [hasB_1 ha (by omega)]
  refine v_if_eq (tgt := 30) X dX5_owes_10 (by decide) (fun hb => ?_) (fun hb => ?_)
  · exact absurd hb (by decide)
  refine v_aload0 X dX5_owes_13 rfl ?_
  refine v_iload2 X dX5_owes_14 rfl ?_
  refine cd_X5_52 X dX5_owes_15 (m_isHouse l hn hN) (gM_t hn) rfl (Nat.le_of_ble_eq_true rfl) ⟨(Nat.le_of_ble_eq_true rfl), (Nat.le_of_ble_eq_true rfl), (Nat.le_of_ble_eq_true rfl), (Nat.le_of_ble_eq_true rfl)⟩ ?_
  rw [hasB_1 hb' (by omega)]
  refine v_if_eq (tgt := 30) X dX5_owes_18 (by decide) (fun hc => ?_) (fun hc => ?_)
  · exact absurd hc (by decide)
  refine v_aload0 X dX5_owes_21 rfl ?_
  refine v_iload1 X dX5_owes_22 rfl ?_
  refine v_iload2 X dX5_owes_23 rfl ?_
  refine cd_X5_78 X dX5_owes_24 (m_debt l hn (by omega) (by omega)) (gM_t hn) rfl (Nat.le_of_ble_eq_true rfl) ⟨(Nat.le_of_ble_eq_true rfl), (Nat.le_of_ble_eq_true rfl), (Nat.le_of_ble_eq_true rfl), (Nat.le_of_ble_eq_true rfl)⟩ ?_
  refine v_goto (tgt := 35) X dX5_owes_27 (by decide) ?_
  exact v_iret X hr hlk dX5_owes_35 ⟨rfl, rfl, rfl, rfl⟩
set_option maxRecDepth 100000 in
set_option maxHeartbeats 4000000 in
theorem mx1_owes (l : Launch) {z0 n : Nat} {D : va_G} {cy : Nat → ClassId} {ad : Nat → Nat} {x y : Int32} {th : Int32} {ra le : Nat → Int32} {S : tS} {g : Nat → va_E} (hn : 61 ≤ n) (ho : ok S) (h1 : hasB (sN S) x = 0 ∨ hasB (sN S) y = 0) : Ct0 l yX5_owes cX5_owes 3 (some FieldType.int) 2 43 z0 D cy n ad (gM cy ad th ra le S g) [.ref (ad 54), .int x, .int y] (some (.int 0)) (gM cy ad 1 ra le S g) := by
  refine ct_of (by decide +kernel) 0 [some (.ref (ad 54)), some (.int x), some (.int y)] (Nat.le_of_ble_eq_true rfl) rfl ?_
  intro p e s m below meth c X hr hlk hnm
  refine v_aload0 X dX5_owes_0 rfl ?_
  refine v_ico (v := 0) X dX5_owes_1 (by decide) ?_
  refine pf_X5_28 X dX5_owes_2 (gM_t hn) ?_
  refine vV.gg (gM_upT) ?_
  refine v_aload0 X dX5_owes_5 rfl ?_
  refine v_iload1 X dX5_owes_6 rfl ?_
  refine cd_X5_52 X dX5_owes_7 (m_isHouse l hn ho.1) (gM_t hn) rfl (Nat.le_of_ble_eq_true rfl) ⟨(Nat.le_of_ble_eq_true rfl), (Nat.le_of_ble_eq_true rfl), (Nat.le_of_ble_eq_true rfl), (Nat.le_of_ble_eq_true rfl)⟩ ?_
  refine v_if_eq (tgt := 30) X dX5_owes_10 (by decide) (fun hb => ?_) (fun hb => ?_)
  · refine v_aload0 X dX5_owes_30 rfl ?_
    refine v_ico (v := 1) X dX5_owes_31 (by decide) ?_
    refine cd_X5_42 X dX5_owes_32 (m_fail l hn) (gM_t hn) rfl (Nat.le_of_ble_eq_true rfl) ⟨(Nat.le_of_ble_eq_true rfl), (Nat.le_of_ble_eq_true rfl), (Nat.le_of_ble_eq_true rfl), (Nat.le_of_ble_eq_true rfl)⟩ ?_
    exact v_iret X hr hlk dX5_owes_35 ⟨rfl, rfl, rfl, rfl⟩
  refine v_aload0 X dX5_owes_13 rfl ?_
  refine v_iload2 X dX5_owes_14 rfl ?_
  refine cd_X5_52 X dX5_owes_15 (m_isHouse l hn ho.1) (gM_t hn) rfl (Nat.le_of_ble_eq_true rfl) ⟨(Nat.le_of_ble_eq_true rfl), (Nat.le_of_ble_eq_true rfl), (Nat.le_of_ble_eq_true rfl), (Nat.le_of_ble_eq_true rfl)⟩ ?_
  refine v_if_eq (tgt := 30) X dX5_owes_18 (by decide) (fun hc => ?_) (fun hc => ?_)
  · refine v_aload0 X dX5_owes_30 rfl ?_
    refine v_ico (v := 1) X dX5_owes_31 (by decide) ?_
    refine cd_X5_42 X dX5_owes_32 (m_fail l hn) (gM_t hn) rfl (Nat.le_of_ble_eq_true rfl) ⟨(Nat.le_of_ble_eq_true rfl), (Nat.le_of_ble_eq_true rfl), (Nat.le_of_ble_eq_true rfl), (Nat.le_of_ble_eq_true rfl)⟩ ?_
    exact v_iret X hr hlk dX5_owes_35 ⟨rfl, rfl, rfl, rfl⟩
  rcases h1 with h1 | h1
  · exact absurd h1 hb
  · exact absurd h1 hc
set_option maxRecDepth 100000 in
set_option maxHeartbeats 4000000 in
theorem m_pass (l : Launch) {z0 n : Nat} {D : va_G} {cy : Nat → ClassId} {ad : Nat → Nat} {d k : Nat} {th : Int32} {ra le : Nat → Int32} {S : tS} {g : Nat → va_E} (hn : 61 ≤ n) (ho : ok S) (hwk : wok ra le) (hd : sM S 0 = nI d) (hd2 : d + k < 2 ^ 31) (h1 : IN (nI k) 1 100) : Ct0 l yX5_pass cX5_pass 2 (some FieldType.int) 4 115 z0 D cy n ad (gM cy ad th ra le S g) [.ref (ad 54), .int (nI k)] (some (.int (thDs ra le k S))) (gM cy ad 0 ra le (daysS ra le k S) g) := by
  refine ct_of (by decide +kernel) 0 [some (.ref (ad 54)), some (.int (nI k))] (Nat.le_of_ble_eq_true rfl) rfl ?_
  intro p e s m below meth c X hr hlk hnm
  refine v_aload0 X dX5_pass_0 rfl ?_
  refine v_ico (v := 0) X dX5_pass_1 (by decide) ?_
  refine pf_X5_28 X dX5_pass_2 (gM_t hn) ?_
  refine vV.gg (gM_upT) ?_
  refine v_iload1 X dX5_pass_5 rfl ?_
  refine v_ico (v := 1) X dX5_pass_6 (by decide) ?_
  refine v_bip (v := 100) X dX5_pass_7 (by decide) ?_
  refine cd_X5_35 X dX5_pass_9 (m_isIn l) (Nat.le_of_ble_eq_true rfl) ⟨(Nat.le_of_ble_eq_true rfl), (Nat.le_of_ble_eq_true rfl), (Nat.le_of_ble_eq_true rfl), (Nat.le_of_ble_eq_true rfl)⟩ ?_
  refine v_if_eq (tgt := 23) X dX5_pass_12 (by decide) (fun hb => ?_) (fun hb => ?_)
  · exact absurd hb (inB_ne h1)
  refine v_aload0 X dX5_pass_15 rfl ?_
  refine v_iload1 X dX5_pass_16 rfl ?_
  refine cd_X5_92 X dX5_pass_17 (m_daysOn l hn ho hwk hd hd2) (gM_t hn) rfl (Nat.le_of_ble_eq_true rfl) ⟨(Nat.le_of_ble_eq_true rfl), (Nat.le_of_ble_eq_true rfl), (Nat.le_of_ble_eq_true rfl), (Nat.le_of_ble_eq_true rfl)⟩ ?_
  refine v_goto (tgt := 28) X dX5_pass_20 (by decide) ?_
  exact v_iret X hr hlk dX5_pass_28 ⟨rfl, rfl, rfl, rfl⟩
set_option maxRecDepth 100000 in
set_option maxHeartbeats 4000000 in
theorem m_count (l : Launch) {z0 n : Nat} {D : va_G} {cy : Nat → ClassId} {ad : Nat → Nat} {j : Nat} {th : Int32} {ra le : Nat → Int32} {S : tS} {g : Nat → va_E} (hn : 61 ≤ n) (ho : ok S) (hj : j < 11) (h1 : IN (nI j) 0 10) : Ct0 l yX5_count cX5_count 2 (some FieldType.int) 3 68 z0 D cy n ad (gM cy ad th ra le S g) [.ref (ad 54), .int (nI j)] (some (.int (totalS S j))) (gM cy ad 0 ra le S g) := by
  refine ct_of (by decide +kernel) 0 [some (.ref (ad 54)), some (.int (nI j))] (Nat.le_of_ble_eq_true rfl) rfl ?_
  intro p e s m below meth c X hr hlk hnm
  refine v_aload0 X dX5_count_0 rfl ?_
  refine v_ico (v := 0) X dX5_count_1 (by decide) ?_
  refine pf_X5_28 X dX5_count_2 (gM_t hn) ?_
  refine vV.gg (gM_upT) ?_
  refine v_iload1 X dX5_count_5 rfl ?_
  refine v_ico (v := 0) X dX5_count_6 (by decide) ?_
  refine v_bip (v := 10) X dX5_count_7 (by decide) ?_
  refine cd_X5_35 X dX5_count_9 (m_isIn l) (Nat.le_of_ble_eq_true rfl) ⟨(Nat.le_of_ble_eq_true rfl), (Nat.le_of_ble_eq_true rfl), (Nat.le_of_ble_eq_true rfl), (Nat.le_of_ble_eq_true rfl)⟩ ?_
  refine v_if_eq (tgt := 23) X dX5_count_12 (by decide) (fun hb => ?_) (fun hb => ?_)
  · exact absurd hb (inB_ne h1)
  refine v_aload0 X dX5_count_15 rfl ?_
  refine v_iload1 X dX5_count_16 rfl ?_
  refine cd_X5_98 X dX5_count_17 (m_counted l hn ho.1 ho.2.1 hj) (gM_t hn) rfl (Nat.le_of_ble_eq_true rfl) ⟨(Nat.le_of_ble_eq_true rfl), (Nat.le_of_ble_eq_true rfl), (Nat.le_of_ble_eq_true rfl), (Nat.le_of_ble_eq_true rfl)⟩ ?_
  refine v_goto (tgt := 28) X dX5_count_20 (by decide) ?_
  exact v_iret X hr hlk dX5_count_28 ⟨rfl, rfl, rfl, rfl⟩
set_option maxRecDepth 100000 in
set_option maxHeartbeats 4000000 in
theorem mx1_pass (l : Launch) {z0 n : Nat} {D : va_G} {cy : Nat → ClassId} {ad : Nat → Nat} {x : Int32} {th : Int32} {ra le : Nat → Int32} {S : tS} {g : Nat → va_E} (hn : 61 ≤ n) (h1 : ¬ IN x 1 100) : Ct0 l yX5_pass cX5_pass 2 (some FieldType.int) 4 115 z0 D cy n ad (gM cy ad th ra le S g) [.ref (ad 54), .int x] (some (.int 0)) (gM cy ad 1 ra le S g) := by
  refine ct_of (by decide +kernel) 0 [some (.ref (ad 54)), some (.int x)] (Nat.le_of_ble_eq_true rfl) rfl ?_
  intro p e s m below meth c X hr hlk hnm
  refine v_aload0 X dX5_pass_0 rfl ?_
  refine v_ico (v := 0) X dX5_pass_1 (by decide) ?_
  refine pf_X5_28 X dX5_pass_2 (gM_t hn) ?_
  refine vV.gg (gM_upT) ?_
  refine v_iload1 X dX5_pass_5 rfl ?_
  refine v_ico (v := 1) X dX5_pass_6 (by decide) ?_
  refine v_bip (v := 100) X dX5_pass_7 (by decide) ?_
  refine cd_X5_35 X dX5_pass_9 (m_isIn l) (Nat.le_of_ble_eq_true rfl) ⟨(Nat.le_of_ble_eq_true rfl), (Nat.le_of_ble_eq_true rfl), (Nat.le_of_ble_eq_true rfl), (Nat.le_of_ble_eq_true rfl)⟩ ?_
  rw [inB_0 h1]
  refine v_if_eq (tgt := 23) X dX5_pass_12 (by decide) (fun hb => ?_) (fun hb => ?_)
  · refine v_aload0 X dX5_pass_23 rfl ?_
    refine v_ico (v := 1) X dX5_pass_24 (by decide) ?_
    refine cd_X5_42 X dX5_pass_25 (m_fail l hn) (gM_t hn) rfl (Nat.le_of_ble_eq_true rfl) ⟨(Nat.le_of_ble_eq_true rfl), (Nat.le_of_ble_eq_true rfl), (Nat.le_of_ble_eq_true rfl), (Nat.le_of_ble_eq_true rfl)⟩ ?_
    exact v_iret X hr hlk dX5_pass_28 ⟨rfl, rfl, rfl, rfl⟩
  exact absurd rfl hb
set_option maxRecDepth 100000 in
set_option maxHeartbeats 4000000 in
theorem mx1_count (l : Launch) {z0 n : Nat} {D : va_G} {cy : Nat → ClassId} {ad : Nat → Nat} {x : Int32} {th : Int32} {ra le : Nat → Int32} {S : tS} {g : Nat → va_E} (hn : 61 ≤ n) (h1 : ¬ IN x 0 10) : Ct0 l yX5_count cX5_count 2 (some FieldType.int) 3 68 z0 D cy n ad (gM cy ad th ra le S g) [.ref (ad 54), .int x] (some (.int 0)) (gM cy ad 1 ra le S g) := by
  refine ct_of (by decide +kernel) 0 [some (.ref (ad 54)), some (.int x)] (Nat.le_of_ble_eq_true rfl) rfl ?_
  intro p e s m below meth c X hr hlk hnm
  refine v_aload0 X dX5_count_0 rfl ?_
  refine v_ico (v := 0) X dX5_count_1 (by decide) ?_
  refine pf_X5_28 X dX5_count_2 (gM_t hn) ?_
  refine vV.gg (gM_upT) ?_
  refine v_iload1 X dX5_count_5 rfl ?_
  refine v_ico (v := 0) X dX5_count_6 (by decide) ?_
  refine v_bip (v := 10) X dX5_count_7 (by decide) ?_
  refine cd_X5_35 X dX5_count_9 (m_isIn l) (Nat.le_of_ble_eq_true rfl) ⟨(Nat.le_of_ble_eq_true rfl), (Nat.le_of_ble_eq_true rfl), (Nat.le_of_ble_eq_true rfl), (Nat.le_of_ble_eq_true rfl)⟩ ?_
  rw [inB_0 h1]
  refine v_if_eq (tgt := 23) X dX5_count_12 (by decide) (fun hb => ?_) (fun hb => ?_)
  · refine v_aload0 X dX5_count_23 rfl ?_
    refine v_ico (v := 1) X dX5_count_24 (by decide) ?_
    refine cd_X5_42 X dX5_count_25 (m_fail l hn) (gM_t hn) rfl (Nat.le_of_ble_eq_true rfl) ⟨(Nat.le_of_ble_eq_true rfl), (Nat.le_of_ble_eq_true rfl), (Nat.le_of_ble_eq_true rfl), (Nat.le_of_ble_eq_true rfl)⟩ ?_
    exact v_iret X hr hlk dX5_count_28 ⟨rfl, rfl, rfl, rfl⟩
  exact absurd rfl hb
