/-! the model builds and lays -/
theorem gM_ad {cy : Nat → ClassId} {ad ad' : Nat → Nat} {th : Int32} {ra le : Nat → Int32} {S : tS} {g : Nat → va_E} (h : ∀ j, j < 61 → ad' j = ad j) : gM cy ad' th ra le S g = gM cy ad th ra le S g := by
  unfold gM cM
  rw [h 55 (by omega), h 56 (by omega), h 57 (by omega), h 58 (by omega), h 59 (by omega), h 60 (by omega)]
theorem vG_add {c N : Nat} {hs : Nat → Nat → Int32} {f fn : Nat → Int32} (hc : 0 < c) (hf : ∀ k, k < c → f k = fn k) : va_cpy f (vG c N hs) 0 (c * N) c = vG c (N + 1) (va_up hs N fn) := by
  funext j
  unfold va_cpy vG
  by_cases h : c * N ≤ j ∧ j < c * N + c
  · have e1 : j / c = N := by
      rw [Nat.div_eq_iff hc]
      constructor
      · rw [Nat.mul_comm]; exact h.1
      · rw [Nat.mul_comm]; omega
    have e2 : j % c = j - c * N := by
      have := Nat.div_add_mod j c
      rw [e1] at this
      omega
    rw [if_pos h, e1, if_pos (by omega), va_up_self, e2, Nat.zero_add]
    exact hf _ (by omega)
  · rw [if_neg h]
    by_cases h1 : j / c < N
    · rw [if_pos h1, if_pos (by omega), va_up_ne _ _ (by omega)]
    · rw [if_neg h1, if_neg]
      intro h2
      have e1 : j / c = N := by omega
      have h3 := Nat.div_add_mod j c
      have h4 := Nat.mod_lt j hc
      rw [e1] at h3
      omega
set_option maxRecDepth 100000 in
set_option maxHeartbeats 4000000 in
theorem m_build (l : Launch) {z0 n : Nat} {D : va_G} {cy : Nat → ClassId} {ad : Nat → Nat} {r h p1 q : Int32} {th : Int32} {ra le : Nat → Int32} {S : tS} {g : Nat → va_E} (hn : 61 ≤ n) (hN : sN S < 10) (h1 : IN r 1 30) (h2 : IN h 10 900) (h3 : IN p1 0 9) (h4 : IN q 0 20) : CtG l yX5_build cX5_build 6 (some FieldType.int) { frames := 1, cells := 1, slots := 10, locals := 40 } z0 D cy n ad (gM cy ad th ra le S g) [.ref (ad 54), .int r, .int h, .int p1, .int q] (isR (some (.int (nI (sN S)))) n ad (gM cy ad 0 ra le (buildT r h p1 q S) g)) 1 10 := by
  refine ct_of (by decide +kernel) 1 [some (.ref (ad 54)), some (.int r), some (.int h), some (.int p1), some (.int q), none] (Nat.le_of_ble_eq_true rfl) rfl ?_
  intro p e s m below meth c X hr hlk hnm
  generalize ([.ref (ad 54), .int r, .int h, .int p1, .int q] : List Value).toArray = A at X ⊢
  generalize hQ : MQ below (QcR z0 D (isR (some (.int (nI (sN S)))) n ad (gM cy ad 0 ra le (buildT r h p1 q S) g))) A s 1 10 (fun q => z0 ≤ q) = Q
  refine v_aload0 X dX5_build_0 rfl ?_
  refine v_ico (v := 0) X dX5_build_1 (by decide) ?_
  refine pf_X5_28 X dX5_build_2 (gM_t hn) ?_
  refine vV.gg (gM_upT) ?_
  refine v_iload1 X dX5_build_5 rfl ?_
  refine v_ico (v := 1) X dX5_build_6 (by decide) ?_
  refine v_bip (v := 30) X dX5_build_7 (by decide) ?_
  refine cd_X5_35 X dX5_build_9 (m_isIn l) (Nat.le_of_ble_eq_true rfl) ⟨(Nat.le_of_ble_eq_true rfl), (Nat.le_of_ble_eq_true rfl), (Nat.le_of_ble_eq_true rfl), (Nat.le_of_ble_eq_true rfl)⟩ ?_
  refine v_if_eq (tgt := 48) X dX5_build_12 (by decide) (fun hb => ?_) (fun hb => ?_)
  · exact absurd hb (inB_ne h1)
  refine v_iload2 X dX5_build_15 rfl ?_
  refine v_bip (v := 10) X dX5_build_16 (by decide) ?_
  refine v_sip (v := 900) X dX5_build_18 (by decide) ?_
  refine cd_X5_35 X dX5_build_21 (m_isIn l) (Nat.le_of_ble_eq_true rfl) ⟨(Nat.le_of_ble_eq_true rfl), (Nat.le_of_ble_eq_true rfl), (Nat.le_of_ble_eq_true rfl), (Nat.le_of_ble_eq_true rfl)⟩ ?_
  refine v_if_eq (tgt := 48) X dX5_build_24 (by decide) (fun hb => ?_) (fun hb => ?_)
  · exact absurd hb (inB_ne h2)
  refine v_iload3 X dX5_build_27 rfl ?_
  refine v_ico (v := 0) X dX5_build_28 (by decide) ?_
  refine v_bip (v := 9) X dX5_build_29 (by decide) ?_
  refine cd_X5_35 X dX5_build_31 (m_isIn l) (Nat.le_of_ble_eq_true rfl) ⟨(Nat.le_of_ble_eq_true rfl), (Nat.le_of_ble_eq_true rfl), (Nat.le_of_ble_eq_true rfl), (Nat.le_of_ble_eq_true rfl)⟩ ?_
  refine v_if_eq (tgt := 48) X dX5_build_34 (by decide) (fun hb => ?_) (fun hb => ?_)
  · exact absurd hb (inB_ne h3)
  refine v_iload X dX5_build_37 rfl ?_
  refine v_ico (v := 0) X dX5_build_39 (by decide) ?_
  refine v_bip (v := 20) X dX5_build_40 (by decide) ?_
  refine cd_X5_35 X dX5_build_42 (m_isIn l) (Nat.le_of_ble_eq_true rfl) ⟨(Nat.le_of_ble_eq_true rfl), (Nat.le_of_ble_eq_true rfl), (Nat.le_of_ble_eq_true rfl), (Nat.le_of_ble_eq_true rfl)⟩ ?_
  refine v_if_ne (tgt := 54) X dX5_build_45 (by decide) (fun hb => ?_) (fun hb => ?_)
  rotate_left
  · exact absurd hb (inB_ne h4)
  refine v_aload0 X dX5_build_54 rfl ?_
  refine gf_X5_32 X dX5_build_55 (gM_t hn) ?_
  refine v_bip (v := 10) X dX5_build_58 (by decide) ?_
  refine v_icmp_ne (tgt := 69) X dX5_build_60 (by decide) (fun hb => ?_) (fun hb => ?_)
  rotate_left
  · exact absurd (nI_inj (by omega) (by decide) hb) (show ¬ sN S = 10 by omega)
  refine v_bip (v := 10) X dX5_build_69 (by decide) ?_
  refine v_newi (N := 10) X rfl (by omega) ⟨Nat.le_of_ble_eq_true rfl, Nat.le_of_ble_eq_true rfl⟩ dX5_build_71 ?_
  intro ad1 a1
  rw [← a1 54 (by omega), ← gM_ad (fun j hj => a1 j (by omega))]
  refine vV.gg (show _ = va_up (gM cy ad1 0 ra le S g) n (iA cy 10 (fun _ => 0)) from rfl) ?_
  have hn1 : n < n + 1 := by omega
  have a0 : ∀ f : Nat → Int32, vAt (n + 1) (va_up (gM cy ad1 0 ra le S g) n (iA cy 10 f)) n (iA cy 10 f) := fun f => ⟨hn1, va_up_self _ _ _⟩
  refine v_dup X dX5_build_73 rfl ?_
  refine v_ico (v := 0) X dX5_build_74 (by decide) ?_
  refine v_iload1 X dX5_build_75 rfl ?_
  refine v_iast (j := 0) X dX5_build_76 (a0 _) rfl (by decide) (by decide) ?_
  refine vV.gg (va_up_up _ _ _ _) ?_
  refine v_dup X dX5_build_77 rfl ?_
  refine v_ico (v := 1) X dX5_build_78 (by decide) ?_
  refine v_iload2 X dX5_build_79 rfl ?_
  refine v_iast (j := 1) X dX5_build_80 (a0 _) rfl (by decide) (by decide) ?_
  refine vV.gg (va_up_up _ _ _ _) ?_
  refine v_dup X dX5_build_81 rfl ?_
  refine v_ico (v := 2) X dX5_build_82 (by decide) ?_
  refine v_ico (v := 0) X dX5_build_83 (by decide) ?_
  refine v_iast (j := 2) X dX5_build_84 (a0 _) rfl (by decide) (by decide) ?_
  refine vV.gg (va_up_up _ _ _ _) ?_
  refine v_dup X dX5_build_85 rfl ?_
  refine v_ico (v := 3) X dX5_build_86 (by decide) ?_
  refine v_iload3 X dX5_build_87 rfl ?_
  refine v_iast (j := 3) X dX5_build_88 (a0 _) rfl (by decide) (by decide) ?_
  refine vV.gg (va_up_up _ _ _ _) ?_
  refine v_dup X dX5_build_89 rfl ?_
  refine v_ico (v := 4) X dX5_build_90 (by decide) ?_
  refine v_iload X dX5_build_91 rfl ?_
  refine v_iast (j := 4) X dX5_build_93 (a0 _) rfl (by decide) (by decide) ?_
  refine vV.gg (va_up_up _ _ _ _) ?_
  refine v_dup X dX5_build_94 rfl ?_
  refine v_ico (v := 5) X dX5_build_95 (by decide) ?_
  refine v_ico (v := 0) X dX5_build_96 (by decide) ?_
  refine v_iast (j := 5) X dX5_build_97 (a0 _) rfl (by decide) (by decide) ?_
  refine vV.gg (va_up_up _ _ _ _) ?_
  refine v_dup X dX5_build_98 rfl ?_
  refine v_bip (v := 6) X dX5_build_99 (by decide) ?_
  refine v_ico (v := -1) X dX5_build_101 (by decide) ?_
  refine v_iast (j := 6) X dX5_build_102 (a0 _) rfl (by decide) (by decide) ?_
  refine vV.gg (va_up_up _ _ _ _) ?_
  refine v_dup X dX5_build_103 rfl ?_
  refine v_bip (v := 7) X dX5_build_104 (by decide) ?_
  refine v_ico (v := 0) X dX5_build_106 (by decide) ?_
  refine v_iast (j := 7) X dX5_build_107 (a0 _) rfl (by decide) (by decide) ?_
  refine vV.gg (va_up_up _ _ _ _) ?_
  refine v_dup X dX5_build_108 rfl ?_
  refine v_bip (v := 8) X dX5_build_109 (by decide) ?_
  refine v_ico (v := 0) X dX5_build_111 (by decide) ?_
  refine v_iast (j := 8) X dX5_build_112 (a0 _) rfl (by decide) (by decide) ?_
  refine vV.gg (va_up_up _ _ _ _) ?_
  refine v_dup X dX5_build_113 rfl ?_
  refine v_bip (v := 9) X dX5_build_114 (by decide) ?_
  refine v_ico (v := 0) X dX5_build_116 (by decide) ?_
  refine v_iast (j := 9) X dX5_build_117 (a0 _) rfl (by decide) (by decide) ?_
  refine vV.gg (va_up_up _ _ _ _) ?_
  have hn : 61 ≤ n + 1 := by omega
  refine v_astore5 X rfl (Nat.le_of_ble_eq_true rfl) dX5_build_118 ?_
  refine v_aload X dX5_build_120 rfl ?_
  refine v_ico (v := 0) X dX5_build_122 (by decide) ?_
  refine v_aload0 X dX5_build_123 rfl ?_
  refine gf_X5_16 X dX5_build_124 ((gM_t hn).ne (by omega)) ?_
  refine v_bip (v := 10) X dX5_build_127 (by decide) ?_
  refine v_aload0 X dX5_build_129 rfl ?_
  refine gf_X5_32 X dX5_build_130 ((gM_t hn).ne (by omega)) ?_
  refine v_imul X dX5_build_133 ?_
  refine v_bip (v := 10) X dX5_build_134 (by decide) ?_
  refine v_copyi X wm_X5_46 (sp := 0) (dp := 10 * sN S) (q := 10) dX5_build_136 (a0 _) ((gM_v hn).ne (by omega)) rfl (by rw [show (10 : Int32) = nI 10 from rfl, nI_mul, Nat.mul_comm]) rfl (by decide) (by omega) ⟨by decide, by decide⟩ (Nat.le_of_ble_eq_true rfl) ⟨Nat.le_of_ble_eq_true rfl, Nat.le_of_ble_eq_true rfl⟩ ?_
  refine vV.gg (va_up_comm _ _ _ (by omega)) ?_
  have hT : vAt (n + 1) (va_up (va_up (gM cy ad1 0 ra le S g) 57 (iA cy 100 (va_cpy (upd (upd (upd (upd (upd (upd (upd (upd (upd (upd (fun _ => 0) 0 r) 1 h) 2 0) 3 p1) 4 q) 5 0) 6 (-1)) 7 0) 8 0) 9 0) (vG 10 (sN S) (sH S)) 0 (10 * sN S) 10))) n (iA cy 10 (upd (upd (upd (upd (upd (upd (upd (upd (upd (upd (fun _ => 0) 0 r) 1 h) 2 0) 3 p1) 4 q) 5 0) 6 (-1)) 7 0) 8 0) 9 0))) 54 (cM ad1 54 0 (nI (sN S)) (nI (sP S))) := vAt.ne (vAt.ne (gM_t hn) (by omega)) (by omega)
  refine v_aload0 X dX5_build_139 rfl ?_
  refine v_dup X dX5_build_140 rfl ?_
  refine gf_X5_32 X dX5_build_141 hT ?_
  refine v_ico (v := 1) X dX5_build_144 (by decide) ?_
  refine v_iadd X dX5_build_145 ?_
  refine vV.top (congrArg Value.int (nI_1 (sN S))) ?_
  refine pf_X5_32 X dX5_build_146 hT ?_
  refine v_aload0 X dX5_build_149 rfl ?_
  refine gf_X5_32 X dX5_build_150 hT.up ?_
  refine v_ico (v := 1) X dX5_build_153 (by decide) ?_
  refine v_isub X dX5_build_154 ?_
  refine vV.top (congrArg Value.int (nI_pred (sN S))) ?_
  refine vV.cut (n' := n) (ad' := ad) (g' := gM cy ad 0 ra le (buildT r h p1 q S) g) (by omega) (fun j hj => (a1 j hj).symm) (fun j hj => ?_) ?_
  · rw [va_up_comm _ _ _ (show n ≠ 54 by omega), va_up_ne _ _ (show j ≠ n by omega)]
    refine congrFun (?_ : gM cy ad 0 ra le (buildT r h p1 q S) g = _) j
    rw [← gM_ad (fun j hj => a1 j (by omega)), vG_add (fn := newH r h p1 q) (by decide) (fun k hk => by
      match k, hk with
      | 0, _ => rfl
      | 1, _ => rfl
      | 2, _ => rfl
      | 3, _ => rfl
      | 4, _ => rfl
      | 5, _ => rfl
      | 6, _ => rfl
      | 7, _ => rfl
      | 8, _ => rfl
      | 9, _ => rfl
      | k + 10, h => exact absurd h (by omega))]
    unfold gM
    rw [gM0_3]
    exact gM0_0.symm
  rw [← hQ]
  exact v_iret X hr hlk dX5_build_155 ⟨rfl, rfl, rfl, rfl⟩
set_option maxRecDepth 100000 in
set_option maxHeartbeats 4000000 in
theorem mx1_build (l : Launch) {z0 n : Nat} {D : va_G} {cy : Nat → ClassId} {ad : Nat → Nat} {r h p1 q : Int32} {th : Int32} {ra le : Nat → Int32} {S : tS} {g : Nat → va_E} (hn : 61 ≤ n) (h1 : ¬ (IN r 1 30 ∧ IN h 10 900 ∧ IN p1 0 9 ∧ IN q 0 20)) : Ct0 l yX5_build cX5_build 6 (some FieldType.int) 1 40 z0 D cy n ad (gM cy ad th ra le S g) [.ref (ad 54), .int r, .int h, .int p1, .int q] (some (.int 0)) (gM cy ad 1 ra le S g) := by
  refine ct_of (by decide +kernel) 1 [some (.ref (ad 54)), some (.int r), some (.int h), some (.int p1), some (.int q), none] (Nat.le_of_ble_eq_true rfl) rfl ?_
  intro p e s m below meth c X hr hlk hnm
  generalize hQ : MQ below (QcR z0 D (isR (some (.int 0)) n ad (gM cy ad 1 ra le S g))) ([.ref (ad 54), .int r, .int h, .int p1, .int q] : List Value).toArray s 0 0 (fun q => z0 ≤ q) = Q
  have hF : vV p l e (rmv 1 40) s m ([.ref (ad 54), .int r, .int h, .int p1, .int q] : List Value).toArray below meth c 6 z0 D 0 0 Q n ad (gM cy ad 0 ra le S g) 48 [some (.ref (ad 54)), some (.int r), some (.int h), some (.int p1), some (.int q), none] [] := by
    refine v_aload0 X dX5_build_48 rfl ?_
    refine v_ico (v := 1) X dX5_build_49 (by decide) ?_
    refine cd_X5_42 X dX5_build_50 (m_fail l hn) (gM_t hn) rfl (Nat.le_of_ble_eq_true rfl) ⟨(Nat.le_of_ble_eq_true rfl), (Nat.le_of_ble_eq_true rfl), (Nat.le_of_ble_eq_true rfl), (Nat.le_of_ble_eq_true rfl)⟩ ?_
    rw [← hQ]
    exact v_iret X hr hlk dX5_build_53 ⟨rfl, rfl, rfl, rfl⟩
  refine v_aload0 X dX5_build_0 rfl ?_
  refine v_ico (v := 0) X dX5_build_1 (by decide) ?_
  refine pf_X5_28 X dX5_build_2 (gM_t hn) ?_
  refine vV.gg (gM_upT) ?_
  refine v_iload1 X dX5_build_5 rfl ?_
  refine v_ico (v := 1) X dX5_build_6 (by decide) ?_
  refine v_bip (v := 30) X dX5_build_7 (by decide) ?_
  refine cd_X5_35 X dX5_build_9 (m_isIn l) (Nat.le_of_ble_eq_true rfl) ⟨(Nat.le_of_ble_eq_true rfl), (Nat.le_of_ble_eq_true rfl), (Nat.le_of_ble_eq_true rfl), (Nat.le_of_ble_eq_true rfl)⟩ ?_
  refine v_if_eq (tgt := 48) X dX5_build_12 (by decide) (fun hb => ?_) (fun hb => ?_)
  · exact hF
  refine v_iload2 X dX5_build_15 rfl ?_
  refine v_bip (v := 10) X dX5_build_16 (by decide) ?_
  refine v_sip (v := 900) X dX5_build_18 (by decide) ?_
  refine cd_X5_35 X dX5_build_21 (m_isIn l) (Nat.le_of_ble_eq_true rfl) ⟨(Nat.le_of_ble_eq_true rfl), (Nat.le_of_ble_eq_true rfl), (Nat.le_of_ble_eq_true rfl), (Nat.le_of_ble_eq_true rfl)⟩ ?_
  refine v_if_eq (tgt := 48) X dX5_build_24 (by decide) (fun hc => ?_) (fun hc => ?_)
  · exact hF
  refine v_iload3 X dX5_build_27 rfl ?_
  refine v_ico (v := 0) X dX5_build_28 (by decide) ?_
  refine v_bip (v := 9) X dX5_build_29 (by decide) ?_
  refine cd_X5_35 X dX5_build_31 (m_isIn l) (Nat.le_of_ble_eq_true rfl) ⟨(Nat.le_of_ble_eq_true rfl), (Nat.le_of_ble_eq_true rfl), (Nat.le_of_ble_eq_true rfl), (Nat.le_of_ble_eq_true rfl)⟩ ?_
  refine v_if_eq (tgt := 48) X dX5_build_34 (by decide) (fun hd => ?_) (fun hd => ?_)
  · exact hF
  refine v_iload X dX5_build_37 rfl ?_
  refine v_ico (v := 0) X dX5_build_39 (by decide) ?_
  refine v_bip (v := 20) X dX5_build_40 (by decide) ?_
  refine cd_X5_35 X dX5_build_42 (m_isIn l) (Nat.le_of_ble_eq_true rfl) ⟨(Nat.le_of_ble_eq_true rfl), (Nat.le_of_ble_eq_true rfl), (Nat.le_of_ble_eq_true rfl), (Nat.le_of_ble_eq_true rfl)⟩ ?_
  refine v_if_ne (tgt := 54) X dX5_build_45 (by decide) (fun he => ?_) (fun he => ?_)
  · exact absurd ⟨IN_of hb, IN_of hc, IN_of hd, IN_of he⟩ h1
  exact hF
set_option maxRecDepth 100000 in
set_option maxHeartbeats 4000000 in
theorem mx2_build (l : Launch) {z0 n : Nat} {D : va_G} {cy : Nat → ClassId} {ad : Nat → Nat} {r h p1 q : Int32} {th : Int32} {ra le : Nat → Int32} {S : tS} {g : Nat → va_E} (hn : 61 ≤ n) (hN : sN S = 10) (h1 : IN r 1 30) (h2 : IN h 10 900) (h3 : IN p1 0 9) (h4 : IN q 0 20) : Ct0 l yX5_build cX5_build 6 (some FieldType.int) 1 40 z0 D cy n ad (gM cy ad th ra le S g) [.ref (ad 54), .int r, .int h, .int p1, .int q] (some (.int 0)) (gM cy ad 2 ra le S g) := by
  refine ct_of (by decide +kernel) 1 [some (.ref (ad 54)), some (.int r), some (.int h), some (.int p1), some (.int q), none] (Nat.le_of_ble_eq_true rfl) rfl ?_
  intro p e s m below meth c X hr hlk hnm
  refine v_aload0 X dX5_build_0 rfl ?_
  refine v_ico (v := 0) X dX5_build_1 (by decide) ?_
  refine pf_X5_28 X dX5_build_2 (gM_t hn) ?_
  refine vV.gg (gM_upT) ?_
  refine v_iload1 X dX5_build_5 rfl ?_
  refine v_ico (v := 1) X dX5_build_6 (by decide) ?_
  refine v_bip (v := 30) X dX5_build_7 (by decide) ?_
  refine cd_X5_35 X dX5_build_9 (m_isIn l) (Nat.le_of_ble_eq_true rfl) ⟨(Nat.le_of_ble_eq_true rfl), (Nat.le_of_ble_eq_true rfl), (Nat.le_of_ble_eq_true rfl), (Nat.le_of_ble_eq_true rfl)⟩ ?_
  refine v_if_eq (tgt := 48) X dX5_build_12 (by decide) (fun hb => ?_) (fun hb => ?_)
  · exact absurd hb (inB_ne h1)
  refine v_iload2 X dX5_build_15 rfl ?_
  refine v_bip (v := 10) X dX5_build_16 (by decide) ?_
  refine v_sip (v := 900) X dX5_build_18 (by decide) ?_
  refine cd_X5_35 X dX5_build_21 (m_isIn l) (Nat.le_of_ble_eq_true rfl) ⟨(Nat.le_of_ble_eq_true rfl), (Nat.le_of_ble_eq_true rfl), (Nat.le_of_ble_eq_true rfl), (Nat.le_of_ble_eq_true rfl)⟩ ?_
  refine v_if_eq (tgt := 48) X dX5_build_24 (by decide) (fun hb => ?_) (fun hb => ?_)
  · exact absurd hb (inB_ne h2)
  refine v_iload3 X dX5_build_27 rfl ?_
  refine v_ico (v := 0) X dX5_build_28 (by decide) ?_
  refine v_bip (v := 9) X dX5_build_29 (by decide) ?_
  refine cd_X5_35 X dX5_build_31 (m_isIn l) (Nat.le_of_ble_eq_true rfl) ⟨(Nat.le_of_ble_eq_true rfl), (Nat.le_of_ble_eq_true rfl), (Nat.le_of_ble_eq_true rfl), (Nat.le_of_ble_eq_true rfl)⟩ ?_
  refine v_if_eq (tgt := 48) X dX5_build_34 (by decide) (fun hb => ?_) (fun hb => ?_)
  · exact absurd hb (inB_ne h3)
  refine v_iload X dX5_build_37 rfl ?_
  refine v_ico (v := 0) X dX5_build_39 (by decide) ?_
  refine v_bip (v := 20) X dX5_build_40 (by decide) ?_
  refine cd_X5_35 X dX5_build_42 (m_isIn l) (Nat.le_of_ble_eq_true rfl) ⟨(Nat.le_of_ble_eq_true rfl), (Nat.le_of_ble_eq_true rfl), (Nat.le_of_ble_eq_true rfl), (Nat.le_of_ble_eq_true rfl)⟩ ?_
  refine v_if_ne (tgt := 54) X dX5_build_45 (by decide) (fun hb => ?_) (fun hb => ?_)
  rotate_left
  · exact absurd hb (inB_ne h4)
  refine v_aload0 X dX5_build_54 rfl ?_
  refine gf_X5_32 X dX5_build_55 (gM_t hn) ?_
  refine v_bip (v := 10) X dX5_build_58 (by decide) ?_
  refine v_icmp_ne (tgt := 69) X dX5_build_60 (by decide) (fun hb => ?_) (fun hb => ?_)
  · exact absurd (show nI (sN S) = 10 by rw [hN]; rfl) hb
  refine v_aload0 X dX5_build_63 rfl ?_
  refine v_ico (v := 2) X dX5_build_64 (by decide) ?_
  refine cd_X5_42 X dX5_build_65 (m_fail l hn) (gM_t hn) rfl (Nat.le_of_ble_eq_true rfl) ⟨(Nat.le_of_ble_eq_true rfl), (Nat.le_of_ble_eq_true rfl), (Nat.le_of_ble_eq_true rfl), (Nat.le_of_ble_eq_true rfl)⟩ ?_
  exact v_iret X hr hlk dX5_build_68 ⟨rfl, rfl, rfl, rfl⟩
set_option maxRecDepth 100000 in
set_option maxHeartbeats 4000000 in
theorem m_lay (l : Launch) {z0 n : Nat} {D : va_G} {cy : Nat → ClassId} {ad : Nat → Nat} {a b : Nat} {v : Int32} {th : Int32} {ra le : Nat → Int32} {S : tS} {g : Nat → va_E} (hn : 61 ≤ n) (ho : ok S) (ha : a < sN S) (hb' : b < sN S) (hab : a ≠ b) (hv : IN v 1 50) (hP : sP S < 12) : CtG l yX5_lay cX5_lay 5 (some FieldType.int) { frames := 2, cells := 1, slots := 5, locals := 43 } z0 D cy n ad (gM cy ad th ra le S g) [.ref (ad 54), .int (nI a), .int (nI b), .int v] (isR (some (.int (nI (sP S)))) n ad (gM cy ad 0 ra le (layT (nI a) (nI b) v S) g)) 1 5 := by
  refine ct_of (by decide +kernel) 1 [some (.ref (ad 54)), some (.int (nI a)), some (.int (nI b)), some (.int v), none] (Nat.le_of_ble_eq_true rfl) rfl ?_
  intro p e s m below meth c X hr hlk hnm
  generalize ([.ref (ad 54), .int (nI a), .int (nI b), .int v] : List Value).toArray = A at X ⊢
  have hN := ho.1
  generalize hQ : MQ below (QcR z0 D (isR (some (.int (nI (sP S)))) n ad (gM cy ad 0 ra le (layT (nI a) (nI b) v S) g))) A s 1 5 (fun q => z0 ≤ q) = Q
  refine v_aload0 X dX5_lay_0 rfl ?_
  refine v_ico (v := 0) X dX5_lay_1 (by decide) ?_
  refine pf_X5_28 X dX5_lay_2 (gM_t hn) ?_
  refine vV.gg (gM_upT) ?_
  refine v_aload0 X dX5_lay_5 rfl ?_
  refine v_iload1 X dX5_lay_6 rfl ?_
  refine cd_X5_52 X dX5_lay_7 (m_isHouse l hn hN) (gM_t hn) rfl (Nat.le_of_ble_eq_true rfl) ⟨(Nat.le_of_ble_eq_true rfl), (Nat.le_of_ble_eq_true rfl), (Nat.le_of_ble_eq_true rfl), (Nat.le_of_ble_eq_true rfl)⟩ ?_
  rw [hasB_1 ha (by omega)]
  refine v_if_eq (tgt := 21) X dX5_lay_10 (by decide) (fun hb => ?_) (fun hb => ?_)
  · exact absurd hb (by decide)
  refine v_aload0 X dX5_lay_13 rfl ?_
  refine v_iload2 X dX5_lay_14 rfl ?_
  refine cd_X5_52 X dX5_lay_15 (m_isHouse l hn hN) (gM_t hn) rfl (Nat.le_of_ble_eq_true rfl) ⟨(Nat.le_of_ble_eq_true rfl), (Nat.le_of_ble_eq_true rfl), (Nat.le_of_ble_eq_true rfl), (Nat.le_of_ble_eq_true rfl)⟩ ?_
  rw [hasB_1 hb' (by omega)]
  refine v_if_ne (tgt := 27) X dX5_lay_18 (by decide) (fun hb => ?_) (fun hb => ?_)
  rotate_left
  · exact absurd hb (by decide)
  refine v_iload1 X dX5_lay_27 rfl ?_
  refine v_iload2 X dX5_lay_28 rfl ?_
  refine v_icmp_eq (tgt := 42) X dX5_lay_29 (by decide) (fun hb => ?_) (fun hb => ?_)
  · exact absurd (nI_inj (by omega) (by omega) hb) hab
  refine v_iload3 X dX5_lay_32 rfl ?_
  refine v_ico (v := 1) X dX5_lay_33 (by decide) ?_
  refine v_bip (v := 50) X dX5_lay_34 (by decide) ?_
  refine cd_X5_35 X dX5_lay_36 (m_isIn l) (Nat.le_of_ble_eq_true rfl) ⟨(Nat.le_of_ble_eq_true rfl), (Nat.le_of_ble_eq_true rfl), (Nat.le_of_ble_eq_true rfl), (Nat.le_of_ble_eq_true rfl)⟩ ?_
  refine v_if_ne (tgt := 48) X dX5_lay_39 (by decide) (fun hb => ?_) (fun hb => ?_)
  rotate_left
  · exact absurd hb (inB_ne hv)
  refine v_aload0 X dX5_lay_48 rfl ?_
  refine gf_X5_39 X dX5_lay_49 (gM_t hn) ?_
  refine v_bip (v := 12) X dX5_lay_52 (by decide) ?_
  refine v_icmp_ne (tgt := 63) X dX5_lay_54 (by decide) (fun hb => ?_) (fun hb => ?_)
  rotate_left
  · exact absurd (nI_inj (by omega) (by decide) hb) (show ¬ sP S = 12 by omega)
  refine v_ico (v := 5) X dX5_lay_63 (by decide) ?_
  refine v_newi (N := 5) X rfl (by omega) ⟨Nat.le_of_ble_eq_true rfl, Nat.le_of_ble_eq_true rfl⟩ dX5_lay_64 ?_
  intro ad1 a1
  rw [← a1 54 (by omega), ← gM_ad (fun j hj => a1 j (by omega))]
  refine vV.gg (show _ = va_up (gM cy ad1 0 ra le S g) n (iA cy 5 (fun _ => 0)) from rfl) ?_
  have hn1 : n < n + 1 := by omega
  have a0 : ∀ f : Nat → Int32, vAt (n + 1) (va_up (gM cy ad1 0 ra le S g) n (iA cy 5 f)) n (iA cy 5 f) := fun f => ⟨hn1, va_up_self _ _ _⟩
  refine v_dup X dX5_lay_66 rfl ?_
  refine v_ico (v := 0) X dX5_lay_67 (by decide) ?_
  refine v_iload1 X dX5_lay_68 rfl ?_
  refine v_iast (j := 0) X dX5_lay_69 (a0 _) rfl (by decide) (by decide) ?_
  refine vV.gg (va_up_up _ _ _ _) ?_
  refine v_dup X dX5_lay_70 rfl ?_
  refine v_ico (v := 1) X dX5_lay_71 (by decide) ?_
  refine v_iload2 X dX5_lay_72 rfl ?_
  refine v_iast (j := 1) X dX5_lay_73 (a0 _) rfl (by decide) (by decide) ?_
  refine vV.gg (va_up_up _ _ _ _) ?_
  refine v_dup X dX5_lay_74 rfl ?_
  refine v_ico (v := 2) X dX5_lay_75 (by decide) ?_
  refine v_iload3 X dX5_lay_76 rfl ?_
  refine v_iast (j := 2) X dX5_lay_77 (a0 _) rfl (by decide) (by decide) ?_
  refine vV.gg (va_up_up _ _ _ _) ?_
  refine v_dup X dX5_lay_78 rfl ?_
  refine v_ico (v := 3) X dX5_lay_79 (by decide) ?_
  refine v_ico (v := 1) X dX5_lay_80 (by decide) ?_
  refine v_iast (j := 3) X dX5_lay_81 (a0 _) rfl (by decide) (by decide) ?_
  refine vV.gg (va_up_up _ _ _ _) ?_
  refine v_dup X dX5_lay_82 rfl ?_
  refine v_ico (v := 4) X dX5_lay_83 (by decide) ?_
  refine v_ico (v := 0) X dX5_lay_84 (by decide) ?_
  refine v_iast (j := 4) X dX5_lay_85 (a0 _) rfl (by decide) (by decide) ?_
  refine vV.gg (va_up_up _ _ _ _) ?_
  have hn : 61 ≤ n + 1 := by omega
  refine v_astore4 X rfl (Nat.le_of_ble_eq_true rfl) dX5_lay_86 ?_
  refine v_aload X dX5_lay_88 rfl ?_
  refine v_ico (v := 0) X dX5_lay_90 (by decide) ?_
  refine v_aload0 X dX5_lay_91 rfl ?_
  refine gf_X5_19 X dX5_lay_92 ((gM_t hn).ne (by omega)) ?_
  refine v_ico (v := 5) X dX5_lay_95 (by decide) ?_
  refine v_aload0 X dX5_lay_96 rfl ?_
  refine gf_X5_39 X dX5_lay_97 ((gM_t hn).ne (by omega)) ?_
  refine v_imul X dX5_lay_100 ?_
  refine v_ico (v := 5) X dX5_lay_101 (by decide) ?_
  refine v_copyi X wm_X5_46 (sp := 0) (dp := 5 * sP S) (q := 5) dX5_lay_102 (a0 _) ((gM_l hn).ne (by omega)) rfl (by rw [show (5 : Int32) = nI 5 from rfl, nI_mul]) rfl (by decide) (by omega) ⟨by decide, by decide⟩ (Nat.le_of_ble_eq_true rfl) ⟨Nat.le_of_ble_eq_true rfl, Nat.le_of_ble_eq_true rfl⟩ ?_
  refine vV.gg (va_up_comm _ _ _ (by omega)) ?_
  have hT : vAt (n + 1) (va_up (va_up (gM cy ad1 0 ra le S g) 58 (iA cy 60 (va_cpy (upd (upd (upd (upd (upd (fun _ => 0) 0 (nI a)) 1 (nI b)) 2 v) 3 1) 4 0) (vG 5 (sP S) (sQ S)) 0 (5 * sP S) 5))) n (iA cy 5 (upd (upd (upd (upd (upd (fun _ => 0) 0 (nI a)) 1 (nI b)) 2 v) 3 1) 4 0))) 54 (cM ad1 54 0 (nI (sN S)) (nI (sP S))) := vAt.ne (vAt.ne (gM_t hn) (by omega)) (by omega)
  refine v_aload0 X dX5_lay_105 rfl ?_
  refine v_dup X dX5_lay_106 rfl ?_
  refine gf_X5_39 X dX5_lay_107 hT ?_
  refine v_ico (v := 1) X dX5_lay_110 (by decide) ?_
  refine v_iadd X dX5_lay_111 ?_
  refine vV.top (congrArg Value.int (nI_1 (sP S))) ?_
  refine pf_X5_39 X dX5_lay_112 hT ?_
  refine v_aload0 X dX5_lay_115 rfl ?_
  refine gf_X5_39 X dX5_lay_116 hT.up ?_
  refine v_ico (v := 1) X dX5_lay_119 (by decide) ?_
  refine v_isub X dX5_lay_120 ?_
  refine vV.top (congrArg Value.int (nI_pred (sP S))) ?_
  refine vV.cut (n' := n) (ad' := ad) (g' := gM cy ad 0 ra le (layT (nI a) (nI b) v S) g) (by omega) (fun j hj => (a1 j hj).symm) (fun j hj => ?_) ?_
  · rw [va_up_comm _ _ _ (show n ≠ 54 by omega), va_up_ne _ _ (show j ≠ n by omega)]
    refine congrFun (?_ : gM cy ad 0 ra le (layT (nI a) (nI b) v S) g = _) j
    rw [← gM_ad (fun j hj => a1 j (by omega)), vG_add (fn := newQ (nI a) (nI b) v) (by decide) (fun k hk => by
      match k, hk with
      | 0, _ => rfl
      | 1, _ => rfl
      | 2, _ => rfl
      | 3, _ => rfl
      | 4, _ => rfl
      | k + 5, h => exact absurd h (by omega))]
    unfold gM
    rw [gM0_4]
    exact gM0_0.symm
  rw [← hQ]
  exact v_iret X hr hlk dX5_lay_121 ⟨rfl, rfl, rfl, rfl⟩
set_option maxRecDepth 100000 in
set_option maxHeartbeats 4000000 in
theorem mx1_lay (l : Launch) {z0 n : Nat} {D : va_G} {cy : Nat → ClassId} {ad : Nat → Nat} {x y v : Int32} {th : Int32} {ra le : Nat → Int32} {S : tS} {g : Nat → va_E} (hn : 61 ≤ n) (ho : ok S) (h1 : hasB (sN S) x = 0 ∨ hasB (sN S) y = 0) : Ct0 l yX5_lay cX5_lay 5 (some FieldType.int) 2 43 z0 D cy n ad (gM cy ad th ra le S g) [.ref (ad 54), .int x, .int y, .int v] (some (.int 0)) (gM cy ad 1 ra le S g) := by
  refine ct_of (by decide +kernel) 1 [some (.ref (ad 54)), some (.int x), some (.int y), some (.int v), none] (Nat.le_of_ble_eq_true rfl) rfl ?_
  intro p e s m below meth c X hr hlk hnm
  refine v_aload0 X dX5_lay_0 rfl ?_
  refine v_ico (v := 0) X dX5_lay_1 (by decide) ?_
  refine pf_X5_28 X dX5_lay_2 (gM_t hn) ?_
  refine vV.gg (gM_upT) ?_
  refine v_aload0 X dX5_lay_5 rfl ?_
  refine v_iload1 X dX5_lay_6 rfl ?_
  refine cd_X5_52 X dX5_lay_7 (m_isHouse l hn ho.1) (gM_t hn) rfl (Nat.le_of_ble_eq_true rfl) ⟨(Nat.le_of_ble_eq_true rfl), (Nat.le_of_ble_eq_true rfl), (Nat.le_of_ble_eq_true rfl), (Nat.le_of_ble_eq_true rfl)⟩ ?_
  refine v_if_eq (tgt := 21) X dX5_lay_10 (by decide) (fun hb => ?_) (fun hb => ?_)
  · refine v_aload0 X dX5_lay_21 rfl ?_
    refine v_ico (v := 1) X dX5_lay_22 (by decide) ?_
    refine cd_X5_42 X dX5_lay_23 (m_fail l hn) (gM_t hn) rfl (Nat.le_of_ble_eq_true rfl) ⟨(Nat.le_of_ble_eq_true rfl), (Nat.le_of_ble_eq_true rfl), (Nat.le_of_ble_eq_true rfl), (Nat.le_of_ble_eq_true rfl)⟩ ?_
    exact v_iret X hr hlk dX5_lay_26 ⟨rfl, rfl, rfl, rfl⟩
  refine v_aload0 X dX5_lay_13 rfl ?_
  refine v_iload2 X dX5_lay_14 rfl ?_
  refine cd_X5_52 X dX5_lay_15 (m_isHouse l hn ho.1) (gM_t hn) rfl (Nat.le_of_ble_eq_true rfl) ⟨(Nat.le_of_ble_eq_true rfl), (Nat.le_of_ble_eq_true rfl), (Nat.le_of_ble_eq_true rfl), (Nat.le_of_ble_eq_true rfl)⟩ ?_
  refine v_if_ne (tgt := 27) X dX5_lay_18 (by decide) (fun hc => ?_) (fun hc => ?_)
  · rcases h1 with h1 | h1
    · exact absurd h1 hb
    · exact absurd h1 hc
  refine v_aload0 X dX5_lay_21 rfl ?_
  refine v_ico (v := 1) X dX5_lay_22 (by decide) ?_
  refine cd_X5_42 X dX5_lay_23 (m_fail l hn) (gM_t hn) rfl (Nat.le_of_ble_eq_true rfl) ⟨(Nat.le_of_ble_eq_true rfl), (Nat.le_of_ble_eq_true rfl), (Nat.le_of_ble_eq_true rfl), (Nat.le_of_ble_eq_true rfl)⟩ ?_
  exact v_iret X hr hlk dX5_lay_26 ⟨rfl, rfl, rfl, rfl⟩
set_option maxRecDepth 100000 in
set_option maxHeartbeats 4000000 in
theorem mx2_lay (l : Launch) {z0 n : Nat} {D : va_G} {cy : Nat → ClassId} {ad : Nat → Nat} {x y v : Int32} {th : Int32} {ra le : Nat → Int32} {S : tS} {g : Nat → va_E} (hn : 61 ≤ n) (ho : ok S) (h1 : hasB (sN S) x = 1) (h2 : hasB (sN S) y = 1) (h3 : ¬ (x ≠ y ∧ IN v 1 50)) : Ct0 l yX5_lay cX5_lay 5 (some FieldType.int) 2 43 z0 D cy n ad (gM cy ad th ra le S g) [.ref (ad 54), .int x, .int y, .int v] (some (.int 0)) (gM cy ad 2 ra le S g) := by
  refine ct_of (by decide +kernel) 1 [some (.ref (ad 54)), some (.int x), some (.int y), some (.int v), none] (Nat.le_of_ble_eq_true rfl) rfl ?_
  intro p e s m below meth c X hr hlk hnm
  refine v_aload0 X dX5_lay_0 rfl ?_
  refine v_ico (v := 0) X dX5_lay_1 (by decide) ?_
  refine pf_X5_28 X dX5_lay_2 (gM_t hn) ?_
  refine vV.gg (gM_upT) ?_
  refine v_aload0 X dX5_lay_5 rfl ?_
  refine v_iload1 X dX5_lay_6 rfl ?_
  refine cd_X5_52 X dX5_lay_7 (m_isHouse l hn ho.1) (gM_t hn) rfl (Nat.le_of_ble_eq_true rfl) ⟨(Nat.le_of_ble_eq_true rfl), (Nat.le_of_ble_eq_true rfl), (Nat.le_of_ble_eq_true rfl), (Nat.le_of_ble_eq_true rfl)⟩ ?_
  rw [h1]
  refine v_if_eq (tgt := 21) X dX5_lay_10 (by decide) (fun hb => ?_) (fun hb => ?_)
  · exact absurd hb (by decide)
  refine v_aload0 X dX5_lay_13 rfl ?_
  refine v_iload2 X dX5_lay_14 rfl ?_
  refine cd_X5_52 X dX5_lay_15 (m_isHouse l hn ho.1) (gM_t hn) rfl (Nat.le_of_ble_eq_true rfl) ⟨(Nat.le_of_ble_eq_true rfl), (Nat.le_of_ble_eq_true rfl), (Nat.le_of_ble_eq_true rfl), (Nat.le_of_ble_eq_true rfl)⟩ ?_
  rw [h2]
  refine v_if_ne (tgt := 27) X dX5_lay_18 (by decide) (fun hc => ?_) (fun hc => ?_)
  rotate_left
  · exact absurd hc (by decide)
  refine v_iload1 X dX5_lay_27 rfl ?_
  refine v_iload2 X dX5_lay_28 rfl ?_
  refine v_icmp_eq (tgt := 42) X dX5_lay_29 (by decide) (fun hd => ?_) (fun hd => ?_)
  · refine v_aload0 X dX5_lay_42 rfl ?_
    refine v_ico (v := 2) X dX5_lay_43 (by decide) ?_
    refine cd_X5_42 X dX5_lay_44 (m_fail l hn) (gM_t hn) rfl (Nat.le_of_ble_eq_true rfl) ⟨(Nat.le_of_ble_eq_true rfl), (Nat.le_of_ble_eq_true rfl), (Nat.le_of_ble_eq_true rfl), (Nat.le_of_ble_eq_true rfl)⟩ ?_
    exact v_iret X hr hlk dX5_lay_47 ⟨rfl, rfl, rfl, rfl⟩
  refine v_iload3 X dX5_lay_32 rfl ?_
  refine v_ico (v := 1) X dX5_lay_33 (by decide) ?_
  refine v_bip (v := 50) X dX5_lay_34 (by decide) ?_
  refine cd_X5_35 X dX5_lay_36 (m_isIn l) (Nat.le_of_ble_eq_true rfl) ⟨(Nat.le_of_ble_eq_true rfl), (Nat.le_of_ble_eq_true rfl), (Nat.le_of_ble_eq_true rfl), (Nat.le_of_ble_eq_true rfl)⟩ ?_
  refine v_if_ne (tgt := 48) X dX5_lay_39 (by decide) (fun he => ?_) (fun he => ?_)
  · exact absurd ⟨hd, IN_of he⟩ h3
  refine v_aload0 X dX5_lay_42 rfl ?_
  refine v_ico (v := 2) X dX5_lay_43 (by decide) ?_
  refine cd_X5_42 X dX5_lay_44 (m_fail l hn) (gM_t hn) rfl (Nat.le_of_ble_eq_true rfl) ⟨(Nat.le_of_ble_eq_true rfl), (Nat.le_of_ble_eq_true rfl), (Nat.le_of_ble_eq_true rfl), (Nat.le_of_ble_eq_true rfl)⟩ ?_
  exact v_iret X hr hlk dX5_lay_47 ⟨rfl, rfl, rfl, rfl⟩
set_option maxRecDepth 100000 in
set_option maxHeartbeats 4000000 in
theorem mx3_lay (l : Launch) {z0 n : Nat} {D : va_G} {cy : Nat → ClassId} {ad : Nat → Nat} {x y v : Int32} {th : Int32} {ra le : Nat → Int32} {S : tS} {g : Nat → va_E} (hn : 61 ≤ n) (ho : ok S) (h1 : hasB (sN S) x = 1) (h2 : hasB (sN S) y = 1) (h3 : x ≠ y) (hv : IN v 1 50) (hP : sP S = 12) : Ct0 l yX5_lay cX5_lay 5 (some FieldType.int) 2 43 z0 D cy n ad (gM cy ad th ra le S g) [.ref (ad 54), .int x, .int y, .int v] (some (.int 0)) (gM cy ad 3 ra le S g) := by
  refine ct_of (by decide +kernel) 1 [some (.ref (ad 54)), some (.int x), some (.int y), some (.int v), none] (Nat.le_of_ble_eq_true rfl) rfl ?_
  intro p e s m below meth c X hr hlk hnm
  refine v_aload0 X dX5_lay_0 rfl ?_
  refine v_ico (v := 0) X dX5_lay_1 (by decide) ?_
  refine pf_X5_28 X dX5_lay_2 (gM_t hn) ?_
  refine vV.gg (gM_upT) ?_
  refine v_aload0 X dX5_lay_5 rfl ?_
  refine v_iload1 X dX5_lay_6 rfl ?_
  refine cd_X5_52 X dX5_lay_7 (m_isHouse l hn ho.1) (gM_t hn) rfl (Nat.le_of_ble_eq_true rfl) ⟨(Nat.le_of_ble_eq_true rfl), (Nat.le_of_ble_eq_true rfl), (Nat.le_of_ble_eq_true rfl), (Nat.le_of_ble_eq_true rfl)⟩ ?_
  rw [h1]
  refine v_if_eq (tgt := 21) X dX5_lay_10 (by decide) (fun hb => ?_) (fun hb => ?_)
  · exact absurd hb (by decide)
  refine v_aload0 X dX5_lay_13 rfl ?_
  refine v_iload2 X dX5_lay_14 rfl ?_
  refine cd_X5_52 X dX5_lay_15 (m_isHouse l hn ho.1) (gM_t hn) rfl (Nat.le_of_ble_eq_true rfl) ⟨(Nat.le_of_ble_eq_true rfl), (Nat.le_of_ble_eq_true rfl), (Nat.le_of_ble_eq_true rfl), (Nat.le_of_ble_eq_true rfl)⟩ ?_
  rw [h2]
  refine v_if_ne (tgt := 27) X dX5_lay_18 (by decide) (fun hc => ?_) (fun hc => ?_)
  rotate_left
  · exact absurd hc (by decide)
  refine v_iload1 X dX5_lay_27 rfl ?_
  refine v_iload2 X dX5_lay_28 rfl ?_
  refine v_icmp_eq (tgt := 42) X dX5_lay_29 (by decide) (fun hd => ?_) (fun hd => ?_)
  · exact absurd hd h3
  refine v_iload3 X dX5_lay_32 rfl ?_
  refine v_ico (v := 1) X dX5_lay_33 (by decide) ?_
  refine v_bip (v := 50) X dX5_lay_34 (by decide) ?_
  refine cd_X5_35 X dX5_lay_36 (m_isIn l) (Nat.le_of_ble_eq_true rfl) ⟨(Nat.le_of_ble_eq_true rfl), (Nat.le_of_ble_eq_true rfl), (Nat.le_of_ble_eq_true rfl), (Nat.le_of_ble_eq_true rfl)⟩ ?_
  refine v_if_ne (tgt := 48) X dX5_lay_39 (by decide) (fun he => ?_) (fun he => ?_)
  rotate_left
  · exact absurd he (inB_ne hv)
  refine v_aload0 X dX5_lay_48 rfl ?_
  refine gf_X5_39 X dX5_lay_49 (gM_t hn) ?_
  refine v_bip (v := 12) X dX5_lay_52 (by decide) ?_
  refine v_icmp_ne (tgt := 63) X dX5_lay_54 (by decide) (fun hf => ?_) (fun hf => ?_)
  · exact absurd (show nI (sP S) = 12 by rw [hP]; rfl) hf
  refine v_aload0 X dX5_lay_57 rfl ?_
  refine v_ico (v := 3) X dX5_lay_58 (by decide) ?_
  refine cd_X5_42 X dX5_lay_59 (m_fail l hn) (gM_t hn) rfl (Nat.le_of_ble_eq_true rfl) ⟨(Nat.le_of_ble_eq_true rfl), (Nat.le_of_ble_eq_true rfl), (Nat.le_of_ble_eq_true rfl), (Nat.le_of_ble_eq_true rfl)⟩ ?_
  exact v_iret X hr hlk dX5_lay_62 ⟨rfl, rfl, rfl, rfl⟩
