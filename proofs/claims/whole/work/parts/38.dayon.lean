/-! the model's day, whole -/
def thF (f : Nat → Int32) : Int32 := 3 * f 3 - drkF f
def drT (h : Nat) (q : Int32 × tS) : Int32 × tS := (q.1 + thF (sH q.2 h), drinkS h q.2)
theorem drT_2 : ∀ (k i : Nat) (q : Int32 × tS), (itr drT i k q).2 = itr drinkS i k q.2
  | 0, _, _ => rfl
  | k + 1, i, q => drT_2 k (i + 1) (drT i q)
def dayTh (ra : Nat → Int32) (S : tS) : Int32 := (itr drT 0 (sN S) (0, day1 ra S)).1
theorem upd_eta (f : Nat → Int32) (k : Nat) : upd f k (f k) = f := by
  funext j
  by_cases h : j = k
  · subst h; rw [upd_s]
  · rw [upd_n _ _ h]
theorem asub (a b c : Int32) : a + b - c = a + (b - c) := by
  rw [Int32.sub_eq_add_neg, Int32.sub_eq_add_neg, Int32.add_assoc]
set_option maxRecDepth 100000 in
set_option maxHeartbeats 4000000 in
theorem m_dayOn (l : Launch) {z0 n : Nat} {D : va_G} {cy : Nat → ClassId} {ad : Nat → Nat} {d : Nat} {th : Int32} {ra le : Nat → Int32} {S : tS} {g : Nat → va_E} (hn : 61 ≤ n) (ho : ok S) (hwk : wok ra le) (hd : sM S 0 = nI d) (hd2 : d < 2 ^ 31) : Ct0 l yX5_dayOn cX5_dayOn 6 (some FieldType.int) 2 67 z0 D cy n ad (gM cy ad th ra le S g) [.ref (ad 54)] (some (.int (dayTh ra S))) (gM cy ad th ra le (dayS ra le S) g) := by
  refine ct_of (by decide +kernel) 5 [some (.ref (ad 54)), none, none, none, none, none] (Nat.le_of_ble_eq_true rfl) rfl ?_
  intro p e s m below meth c X hr hlk hnm
  have e0 : (sM S 0).toNatClampNeg = d := by rw [hd]; exact nI_clamp hd2
  have eD : dayN S = d % 28 := by unfold dayN; rw [e0]
  generalize hQ : MQ below (QcR z0 D (isR (some (.int (dayTh ra S))) n ad (gM cy ad th ra le (dayS ra le S) g))) ([.ref (ad 54)] : List Value).toArray s 0 0 (fun q => z0 ≤ q) = Q
  refine v_ico (v := 0) X dX5_dayOn_0 (by decide) ?_
  refine v_istore1 X rfl (Nat.le_of_ble_eq_true rfl) dX5_dayOn_1 ?_
  refine v_aload0 X dX5_dayOn_2 rfl ?_
  refine gf_X5_25 X dX5_dayOn_3 (gM_t hn) ?_
  refine v_ico (v := 0) X dX5_dayOn_6 (by decide) ?_
  refine v_iald X dX5_dayOn_7 (gM_m hn) rfl (by decide) (by decide) ?_
  refine v_bip (v := 28) X dX5_dayOn_8 (by decide) ?_
  refine v_irem X dX5_dayOn_10 (by decide) ?_
  refine vV.top (w := .int (nI (dayN S))) (congrArg Value.int (by rw [hd, eD]; exact rem28 hd2)) ?_
  refine v_istore2 X rfl (Nat.le_of_ble_eq_true rfl) dX5_dayOn_11 ?_
  refine v_ico (v := 0) X dX5_dayOn_12 (by decide) ?_
  refine v_istore3 X rfl (Nat.le_of_ble_eq_true rfl) dX5_dayOn_13 ?_
  have o1 := day1_ok (ra := ra) (le := le) hwk ho
  have o2 := day2_ok (ra := ra) (le := le) hwk ho
  have o3 := day3_ok (ra := ra) (le := le) hwk ho
  have o4 := day4_ok (ra := ra) (le := le) hwk ho
  have o5 := day5_ok (ra := ra) (le := le) hwk ho
  -- rain
  refine loop_inv (rainS (ra (dayN S))) (fun _ T => ok T ∧ same S T) (fun h T => vV p l e (rmv 2 67) s m ([.ref (ad 54)] : List Value).toArray below meth c 6 z0 D 0 0 Q n ad (gM cy ad th ra le T g) 14 [some (.ref (ad 54)), some (.int 0), some (.int (nI (dayN S))), some (.int (nI h)), none, none] []) (sN S) (fun i T hi hT => ?_) ?_ (sN S) 0 S (Nat.zero_add _) ⟨ho, same.rf⟩ ?_
  · obtain ⟨a, b⟩ := rainS_ok hT.1 (by rw [hT.2.1]; exact hi) (hwk.1 _ (dayN_lt S))
    exact ⟨a, hT.2.tr b⟩
  · intro h T hi hT hk1
    have hN := hT.1.1
    have hh : h < sN T := by rw [hT.2.1]; exact hi
    obtain ⟨k, -, hk⟩ := ok_ter hT.1 hh
    refine v_iload3 X dX5_dayOn_14 rfl ?_
    refine v_aload0 X dX5_dayOn_15 rfl ?_
    refine gf_X5_32 X dX5_dayOn_16 (gM_t hn) ?_
    refine v_icmp_ge (tgt := 75) X dX5_dayOn_19 (by decide) (fun hc => ?_) (fun hc => ?_)
    · exact absurd hc (nIge hh (by omega))
    refine v_aload0 X dX5_dayOn_22 rfl ?_
    refine v_iload3 X dX5_dayOn_23 rfl ?_
    refine v_ico (v := 0) X dX5_dayOn_24 (by decide) ?_
    refine cd_X5_56 X dX5_dayOn_25 (m_ho l (w := 0) hn hN hh (by decide)) (gM_t hn) rfl (Nat.le_of_ble_eq_true rfl) ⟨(Nat.le_of_ble_eq_true rfl), (Nat.le_of_ble_eq_true rfl), (Nat.le_of_ble_eq_true rfl), (Nat.le_of_ble_eq_true rfl)⟩ ?_
    refine v_aload0 X dX5_dayOn_28 rfl ?_
    refine gf_X5_9 X dX5_dayOn_29 (gM_t hn) ?_
    refine v_iload2 X dX5_dayOn_32 rfl ?_
    refine v_iald X dX5_dayOn_33 (gM_r hn) rfl (dayN_lt S) (by decide) ?_
    refine v_imul X dX5_dayOn_34 ?_
    refine v_bip (v := 10) X dX5_dayOn_35 (by decide) ?_
    refine v_aload0 X dX5_dayOn_37 rfl ?_
    refine v_iload3 X dX5_dayOn_38 rfl ?_
    refine v_ico (v := 5) X dX5_dayOn_39 (by decide) ?_
    refine cd_X5_56 X dX5_dayOn_40 (m_ho l (w := 5) hn hN hh (by decide)) (gM_t hn) rfl (Nat.le_of_ble_eq_true rfl) ⟨(Nat.le_of_ble_eq_true rfl), (Nat.le_of_ble_eq_true rfl), (Nat.le_of_ble_eq_true rfl), (Nat.le_of_ble_eq_true rfl)⟩ ?_
    refine v_isub X dX5_dayOn_43 ?_
    refine v_imul X dX5_dayOn_44 ?_
    refine v_bip (v := 10) X dX5_dayOn_45 (by decide) ?_
    refine v_idiv X dX5_dayOn_47 (by decide) ?_
    refine v_istore4 X rfl (Nat.le_of_ble_eq_true rfl) dX5_dayOn_48 ?_
    refine v_aload0 X dX5_dayOn_50 rfl ?_
    refine gf_X5_25 X dX5_dayOn_51 (gM_t hn) ?_
    refine v_ico (v := 1) X dX5_dayOn_54 (by decide) ?_
    refine v_dup2 X dX5_dayOn_55 rfl rfl ?_
    refine v_iald X dX5_dayOn_56 (gM_m hn) rfl (by decide) (by decide) ?_
    refine v_iload X dX5_dayOn_57 rfl ?_
    refine v_iadd X dX5_dayOn_59 ?_
    refine v_iast X dX5_dayOn_60 (gM_m hn) rfl (by decide) (by decide) ?_
    refine vV.gg (gM_upM) ?_
    refine v_aload0 X dX5_dayOn_61 rfl ?_
    refine v_iload3 X dX5_dayOn_62 rfl ?_
    refine v_iload X dX5_dayOn_63 rfl ?_
    refine cd_X5_75 X dX5_dayOn_65 (m_pour l (S := setM T (upd (sM T) 1 (sM T 1 + rainA (ra (dayN S)) h T))) hn hN hk) (gM_t hn) rfl (Nat.le_of_ble_eq_true rfl) ⟨(Nat.le_of_ble_eq_true rfl), (Nat.le_of_ble_eq_true rfl), (Nat.le_of_ble_eq_true rfl), (Nat.le_of_ble_eq_true rfl)⟩ ?_
    refine v_pop X dX5_dayOn_68 rfl ?_
    refine v_iinc3 (v := nI (h + 1)) X rfl (Nat.le_of_ble_eq_true rfl) dX5_dayOn_69 (nI_inc h) ?_
    refine v_goto (tgt := 14) X dX5_dayOn_72 (by decide) ?_
    exact vV.le (A := [some (.ref (ad 54)), some (.int 0), some (.int (nI (dayN S))), some (.int (nI (h + 1))), none, none]) ⟨rfl, rfl, rfl, rfl, trivial⟩ hk1
  intro hT1
  rw [show itr (rainS (ra (dayN S))) 0 (sN S) S = day1 ra S from rfl]
  have hN1 : sN (day1 ra S) = sN S := o1.2.1
  refine v_iload3 X dX5_dayOn_14 rfl ?_
  refine v_aload0 X dX5_dayOn_15 rfl ?_
  refine gf_X5_32 X dX5_dayOn_16 (gM_t hn) ?_
  refine v_icmp_ge (tgt := 75) X dX5_dayOn_19 (by decide) (fun hc1 => ?_) (fun hc1 => ?_)
  rotate_left
  · exact absurd (show nI (sN (day1 ra S)) ≤ nI (sN S) by rw [hN1]; exact Int32.le_refl _) hc1
  refine v_ico (v := 0) X dX5_dayOn_75 (by decide) ?_
  refine v_istore3 X rfl (Nat.le_of_ble_eq_true rfl) dX5_dayOn_76 ?_
  -- people drink
  refine loop_inv drT (fun _ q => ok q.2 ∧ same S q.2) (fun h q => vV p l e (rmv 2 67) s m ([.ref (ad 54)] : List Value).toArray below meth c 6 z0 D 0 0 Q n ad (gM cy ad th ra le q.2 g) 77 [some (.ref (ad 54)), some (.int q.1), some (.int (nI (dayN S))), some (.int (nI h)), none, none] []) (sN S) (fun i q hi hT => ?_) ?_ (sN S) 0 (0, day1 ra S) (Nat.zero_add _) o1 ?_
  · obtain ⟨a, b⟩ := drinkS_ok (i := i) hT.1
    exact ⟨a, hT.2.tr b⟩
  · rintro h ⟨t0, T⟩ hi hT hk1
    have hN : sN T ≤ 10 := hT.1.1
    have hh : h < sN T := by rw [hT.2.1]; exact hi
    refine v_iload3 X dX5_dayOn_77 rfl ?_
    refine v_aload0 X dX5_dayOn_78 rfl ?_
    refine gf_X5_32 X dX5_dayOn_79 (gM_t hn) ?_
    refine v_icmp_ge (tgt := 191) X dX5_dayOn_82 (by decide) (fun hc => ?_) (fun hc => ?_)
    · exact absurd hc (nIge hh (show sN T < 2 ^ 31 by omega))
    have hG : ∀ f3, f3 = drinkF (sH T h) → vV p l e (rmv 2 67) s m ([.ref (ad 54)] : List Value).toArray below meth c 6 z0 D 0 0 Q n ad (gM cy ad th ra le (hU T h f3) g) 166 [some (.ref (ad 54)), some (.int t0), some (.int (nI (dayN S))), some (.int (nI h)), some (.int (3 * sH T h 3)), some (.int (drkF (sH T h)))] [] := by
      intro f3 hf
      subst hf
      refine v_aload0 X dX5_dayOn_166 rfl ?_
      refine gf_X5_25 X dX5_dayOn_167 (gM_t hn) ?_
      refine v_ico (v := 3) X dX5_dayOn_170 (by decide) ?_
      refine v_dup2 X dX5_dayOn_171 rfl rfl ?_
      refine v_iald X dX5_dayOn_172 (gM_m hn) rfl (by decide) (by decide) ?_
      refine v_iload X dX5_dayOn_173 rfl ?_
      refine v_iadd X dX5_dayOn_175 ?_
      refine v_iast X dX5_dayOn_176 (gM_m hn) rfl (by decide) (by decide) ?_
      refine vV.gg (gM_upM) ?_
      refine v_iload1 X dX5_dayOn_177 rfl ?_
      refine v_iload X dX5_dayOn_178 rfl ?_
      refine v_iload X dX5_dayOn_180 rfl ?_
      refine v_isub X dX5_dayOn_182 ?_
      refine v_iadd X dX5_dayOn_183 ?_
      refine v_istore1 X rfl (Nat.le_of_ble_eq_true rfl) dX5_dayOn_184 ?_
      refine v_iinc3 (v := nI (h + 1)) X rfl (Nat.le_of_ble_eq_true rfl) dX5_dayOn_185 (nI_inc h) ?_
      refine v_goto (tgt := 77) X dX5_dayOn_188 (by decide) ?_
      exact vV.le (A := [some (.ref (ad 54)), some (.int (t0 + thF (sH T h))), some (.int (nI (dayN S))), some (.int (nI (h + 1))), none, none]) ⟨rfl, rfl, rfl, rfl, trivial⟩ hk1
    refine vV.gg (show _ = gM cy ad th ra le (hU T h (sH T h)) g by rw [hU_self]) ?_
    refine v_ico (v := 3) X dX5_dayOn_85 (by decide) ?_
    refine v_aload0 X dX5_dayOn_86 rfl ?_
    refine v_iload3 X dX5_dayOn_87 rfl ?_
    refine v_ico (v := 3) X dX5_dayOn_88 (by decide) ?_
    refine cd_X5_56 X dX5_dayOn_89 (m_hoF l (w := 3) hn hN hh (by decide)) (gM_t hn) rfl (Nat.le_of_ble_eq_true rfl) ⟨(Nat.le_of_ble_eq_true rfl), (Nat.le_of_ble_eq_true rfl), (Nat.le_of_ble_eq_true rfl), (Nat.le_of_ble_eq_true rfl)⟩ ?_
    refine v_imul X dX5_dayOn_92 ?_
    refine v_istore4 X rfl (Nat.le_of_ble_eq_true rfl) dX5_dayOn_93 ?_
    refine v_iload X dX5_dayOn_95 rfl ?_
    refine v_aload0 X dX5_dayOn_97 rfl ?_
    refine v_iload3 X dX5_dayOn_98 rfl ?_
    refine v_ico (v := 2) X dX5_dayOn_99 (by decide) ?_
    refine cd_X5_56 X dX5_dayOn_100 (m_hoF l (w := 2) hn hN hh (by decide)) (gM_t hn) rfl (Nat.le_of_ble_eq_true rfl) ⟨(Nat.le_of_ble_eq_true rfl), (Nat.le_of_ble_eq_true rfl), (Nat.le_of_ble_eq_true rfl), (Nat.le_of_ble_eq_true rfl)⟩ ?_
    refine v_mmin X dX5_dayOn_103 wm_X5_70 wt_J9_min_7cf53 wz_J9 wc_J9_min_7cf53 ⟨(Nat.le_of_ble_eq_true rfl), (Nat.le_of_ble_eq_true rfl), (Nat.le_of_ble_eq_true rfl), (Nat.le_of_ble_eq_true rfl)⟩ ?_
    refine v_istore5 X rfl (Nat.le_of_ble_eq_true rfl) dX5_dayOn_106 ?_
    refine v_aload0 X dX5_dayOn_108 rfl ?_
    refine v_iload3 X dX5_dayOn_109 rfl ?_
    refine v_ico (v := 2) X dX5_dayOn_110 (by decide) ?_
    refine v_aload0 X dX5_dayOn_111 rfl ?_
    refine v_iload3 X dX5_dayOn_112 rfl ?_
    refine v_ico (v := 2) X dX5_dayOn_113 (by decide) ?_
    refine cd_X5_56 X dX5_dayOn_114 (m_hoF l (w := 2) hn hN hh (by decide)) (gM_t hn) rfl (Nat.le_of_ble_eq_true rfl) ⟨(Nat.le_of_ble_eq_true rfl), (Nat.le_of_ble_eq_true rfl), (Nat.le_of_ble_eq_true rfl), (Nat.le_of_ble_eq_true rfl)⟩ ?_
    refine v_iload X dX5_dayOn_117 rfl ?_
    refine v_isub X dX5_dayOn_119 ?_
    refine cd_X5_60 X dX5_dayOn_120 (m_setF l (w := 2) hn hN hh (by decide)) (gM_t hn) rfl (Nat.le_of_ble_eq_true rfl) ⟨(Nat.le_of_ble_eq_true rfl), (Nat.le_of_ble_eq_true rfl), (Nat.le_of_ble_eq_true rfl), (Nat.le_of_ble_eq_true rfl)⟩ ?_
    refine v_aload0 X dX5_dayOn_123 rfl ?_
    refine v_iload3 X dX5_dayOn_124 rfl ?_
    refine v_bip (v := 7) X dX5_dayOn_125 (by decide) ?_
    refine v_aload0 X dX5_dayOn_127 rfl ?_
    refine v_iload3 X dX5_dayOn_128 rfl ?_
    refine v_bip (v := 7) X dX5_dayOn_129 (by decide) ?_
    refine cd_X5_56 X dX5_dayOn_131 (m_hoF l (w := 7) hn hN hh (by decide)) (gM_t hn) rfl (Nat.le_of_ble_eq_true rfl) ⟨(Nat.le_of_ble_eq_true rfl), (Nat.le_of_ble_eq_true rfl), (Nat.le_of_ble_eq_true rfl), (Nat.le_of_ble_eq_true rfl)⟩ ?_
    refine v_iload X dX5_dayOn_134 rfl ?_
    refine v_iadd X dX5_dayOn_136 ?_
    refine v_iload X dX5_dayOn_137 rfl ?_
    refine v_isub X dX5_dayOn_139 ?_
    refine vV.top (congrArg Value.int (asub _ _ _)) ?_
    refine cd_X5_60 X dX5_dayOn_140 (m_setF l (w := 7) hn hN hh (by decide)) (gM_t hn) rfl (Nat.le_of_ble_eq_true rfl) ⟨(Nat.le_of_ble_eq_true rfl), (Nat.le_of_ble_eq_true rfl), (Nat.le_of_ble_eq_true rfl), (Nat.le_of_ble_eq_true rfl)⟩ ?_
    refine v_iload X dX5_dayOn_143 rfl ?_
    refine v_iload X dX5_dayOn_145 rfl ?_
    refine v_icmp_ge (tgt := 166) X dX5_dayOn_147 (by decide) (fun hc2 => ?_) (fun hc2 => ?_)
    · refine vV.le (A := [some (.ref (ad 54)), some (.int t0), some (.int (nI (dayN S))), some (.int (nI h)), some (.int (3 * sH T h 3)), some (.int (drkF (sH T h)))]) ⟨rfl, rfl, rfl, rfl, rfl, rfl, trivial⟩ ?_
      refine hG _ ?_
      have hc3 : ¬ drkF (sH T h) < 3 * sH T h 3 := Int32.not_lt.mpr hc2
      show upd (upd (sH T h) 2 (sH T h 2 - drkF (sH T h))) 7 (sH T h 7 + (3 * sH T h 3 - drkF (sH T h))) = upd (upd (upd (sH T h) 2 (sH T h 2 - drkF (sH T h))) 7 (sH T h 7 + (3 * sH T h 3 - drkF (sH T h)))) 9 (if drkF (sH T h) < 3 * sH T h 3 then sH T h 9 + 1 else sH T h 9)
      rw [if_neg hc3]
      exact (upd_eta (upd (upd (sH T h) 2 (sH T h 2 - drkF (sH T h))) 7 (sH T h 7 + (3 * sH T h 3 - drkF (sH T h)))) 9).symm
    refine v_aload0 X dX5_dayOn_150 rfl ?_
    refine v_iload3 X dX5_dayOn_151 rfl ?_
    refine v_bip (v := 9) X dX5_dayOn_152 (by decide) ?_
    refine v_aload0 X dX5_dayOn_154 rfl ?_
    refine v_iload3 X dX5_dayOn_155 rfl ?_
    refine v_bip (v := 9) X dX5_dayOn_156 (by decide) ?_
    refine cd_X5_56 X dX5_dayOn_158 (m_hoF l (w := 9) hn hN hh (by decide)) (gM_t hn) rfl (Nat.le_of_ble_eq_true rfl) ⟨(Nat.le_of_ble_eq_true rfl), (Nat.le_of_ble_eq_true rfl), (Nat.le_of_ble_eq_true rfl), (Nat.le_of_ble_eq_true rfl)⟩ ?_
    refine v_ico (v := 1) X dX5_dayOn_161 (by decide) ?_
    refine v_iadd X dX5_dayOn_162 ?_
    refine cd_X5_60 X dX5_dayOn_163 (m_setF l (w := 9) hn hN hh (by decide)) (gM_t hn) rfl (Nat.le_of_ble_eq_true rfl) ⟨(Nat.le_of_ble_eq_true rfl), (Nat.le_of_ble_eq_true rfl), (Nat.le_of_ble_eq_true rfl), (Nat.le_of_ble_eq_true rfl)⟩ ?_
    refine vV.le (A := [some (.ref (ad 54)), some (.int t0), some (.int (nI (dayN S))), some (.int (nI h)), some (.int (3 * sH T h 3)), some (.int (drkF (sH T h)))]) ⟨rfl, rfl, rfl, rfl, rfl, rfl, trivial⟩ ?_
    refine hG _ ?_
    have hc3 : drkF (sH T h) < 3 * sH T h 3 := Int32.not_le.mp hc2
    show upd (upd (upd (sH T h) 2 (sH T h 2 - drkF (sH T h))) 7 (sH T h 7 + (3 * sH T h 3 - drkF (sH T h)))) 9 (sH T h 9 + 1) = upd (upd (upd (sH T h) 2 (sH T h 2 - drkF (sH T h))) 7 (sH T h 7 + (3 * sH T h 3 - drkF (sH T h)))) 9 (if drkF (sH T h) < 3 * sH T h 3 then sH T h 9 + 1 else sH T h 9)
    rw [if_pos hc3]
  intro hT2
  have eT : (itr drT 0 (sN S) (0, day1 ra S)).1 = dayTh ra S := rfl
  have eS : (itr drT 0 (sN S) (0, day1 ra S)).2 = day2 ra S := drT_2 _ _ _
  rw [eT, eS]
  have hN2 : sN (day2 ra S) = sN S := o2.2.1
  refine v_iload3 X dX5_dayOn_77 rfl ?_
  refine v_aload0 X dX5_dayOn_78 rfl ?_
  refine gf_X5_32 X dX5_dayOn_79 (gM_t hn) ?_
  refine v_icmp_ge (tgt := 191) X dX5_dayOn_82 (by decide) (fun hc2 => ?_) (fun hc2 => ?_)
  rotate_left
  · exact absurd (show nI (sN (day2 ra S)) ≤ nI (sN S) by rw [hN2]; exact Int32.le_refl _) hc2
  refine v_ico (v := 0) X dX5_dayOn_191 (by decide) ?_
  refine v_istore3 X rfl (Nat.le_of_ble_eq_true rfl) dX5_dayOn_192 ?_
  -- gardens
  refine loop_inv gardS (fun _ T => ok T ∧ same S T) (fun h T => vV p l e (rmv 2 67) s m ([.ref (ad 54)] : List Value).toArray below meth c 6 z0 D 0 0 Q n ad (gM cy ad th ra le T g) 193 [some (.ref (ad 54)), some (.int (dayTh ra S)), some (.int (nI (dayN S))), some (.int (nI h)), none, none] []) (sN S) (fun i T hi hT => ?_) ?_ (sN S) 0 (day2 ra S) (Nat.zero_add _) o2 ?_
  · obtain ⟨a, b⟩ := gardS_ok (i := i) hT.1
    exact ⟨a, hT.2.tr b⟩
  · intro h T hi hT hk1
    have hN := hT.1.1
    have hh : h < sN T := by rw [hT.2.1]; exact hi
    refine v_iload3 X dX5_dayOn_193 rfl ?_
    refine v_aload0 X dX5_dayOn_194 rfl ?_
    refine gf_X5_32 X dX5_dayOn_195 (gM_t hn) ?_
    refine v_icmp_ge (tgt := 280) X dX5_dayOn_198 (by decide) (fun hc => ?_) (fun hc => ?_)
    · exact absurd hc (nIge hh (by omega))
    have hG : ∀ G, upd (upd (sH T h) 2 (sH T h 2 - G)) 8 (sH T h 8 + G) = gardF (sH T h) → vV p l e (rmv 2 67) s m ([.ref (ad 54)] : List Value).toArray below meth c 6 z0 D 0 0 Q n ad (gM cy ad th ra le (hU T h (sH T h)) g) 240 [some (.ref (ad 54)), some (.int (dayTh ra S)), some (.int (nI (dayN S))), some (.int (nI h)), none, none] [.int G] := by
      intro G hG
      refine v_istore5 X rfl (Nat.le_of_ble_eq_true rfl) dX5_dayOn_240 ?_
      refine v_aload0 X dX5_dayOn_242 rfl ?_
      refine v_iload3 X dX5_dayOn_243 rfl ?_
      refine v_ico (v := 2) X dX5_dayOn_244 (by decide) ?_
      refine v_aload0 X dX5_dayOn_245 rfl ?_
      refine v_iload3 X dX5_dayOn_246 rfl ?_
      refine v_ico (v := 2) X dX5_dayOn_247 (by decide) ?_
      refine cd_X5_56 X dX5_dayOn_248 (m_hoF l (w := 2) hn hN hh (by decide)) (gM_t hn) rfl (Nat.le_of_ble_eq_true rfl) ⟨(Nat.le_of_ble_eq_true rfl), (Nat.le_of_ble_eq_true rfl), (Nat.le_of_ble_eq_true rfl), (Nat.le_of_ble_eq_true rfl)⟩ ?_
      refine v_iload X dX5_dayOn_251 rfl ?_
      refine v_isub X dX5_dayOn_253 ?_
      refine cd_X5_60 X dX5_dayOn_254 (m_setF l (w := 2) hn hN hh (by decide)) (gM_t hn) rfl (Nat.le_of_ble_eq_true rfl) ⟨(Nat.le_of_ble_eq_true rfl), (Nat.le_of_ble_eq_true rfl), (Nat.le_of_ble_eq_true rfl), (Nat.le_of_ble_eq_true rfl)⟩ ?_
      refine v_aload0 X dX5_dayOn_257 rfl ?_
      refine v_iload3 X dX5_dayOn_258 rfl ?_
      refine v_bip (v := 8) X dX5_dayOn_259 (by decide) ?_
      refine v_aload0 X dX5_dayOn_261 rfl ?_
      refine v_iload3 X dX5_dayOn_262 rfl ?_
      refine v_bip (v := 8) X dX5_dayOn_263 (by decide) ?_
      refine cd_X5_56 X dX5_dayOn_265 (m_hoF l (w := 8) hn hN hh (by decide)) (gM_t hn) rfl (Nat.le_of_ble_eq_true rfl) ⟨(Nat.le_of_ble_eq_true rfl), (Nat.le_of_ble_eq_true rfl), (Nat.le_of_ble_eq_true rfl), (Nat.le_of_ble_eq_true rfl)⟩ ?_
      refine v_iload X dX5_dayOn_268 rfl ?_
      refine v_iadd X dX5_dayOn_270 ?_
      refine cd_X5_60 X dX5_dayOn_271 (m_setF l (w := 8) hn hN hh (by decide)) (gM_t hn) rfl (Nat.le_of_ble_eq_true rfl) ⟨(Nat.le_of_ble_eq_true rfl), (Nat.le_of_ble_eq_true rfl), (Nat.le_of_ble_eq_true rfl), (Nat.le_of_ble_eq_true rfl)⟩ ?_
      refine vV.gg (show _ = gM cy ad th ra le (hU T h (gardF (sH T h))) g from congrArg (fun f => gM cy ad th ra le (hU T h f) g) hG) ?_
      refine v_iinc3 (v := nI (h + 1)) X rfl (Nat.le_of_ble_eq_true rfl) dX5_dayOn_274 (nI_inc h) ?_
      refine v_goto (tgt := 193) X dX5_dayOn_277 (by decide) ?_
      exact vV.le (A := [some (.ref (ad 54)), some (.int (dayTh ra S)), some (.int (nI (dayN S))), some (.int (nI (h + 1))), none, none]) ⟨rfl, rfl, rfl, rfl, trivial⟩ hk1
    refine vV.gg (show _ = gM cy ad th ra le (hU T h (sH T h)) g by rw [hU_self]) ?_
    refine v_ico (v := 2) X dX5_dayOn_201 (by decide) ?_
    refine v_aload0 X dX5_dayOn_202 rfl ?_
    refine v_iload3 X dX5_dayOn_203 rfl ?_
    refine v_ico (v := 2) X dX5_dayOn_204 (by decide) ?_
    refine cd_X5_56 X dX5_dayOn_205 (m_hoF l (w := 2) hn hN hh (by decide)) (gM_t hn) rfl (Nat.le_of_ble_eq_true rfl) ⟨(Nat.le_of_ble_eq_true rfl), (Nat.le_of_ble_eq_true rfl), (Nat.le_of_ble_eq_true rfl), (Nat.le_of_ble_eq_true rfl)⟩ ?_
    refine v_imul X dX5_dayOn_208 ?_
    refine v_aload0 X dX5_dayOn_209 rfl ?_
    refine v_iload3 X dX5_dayOn_210 rfl ?_
    refine v_ico (v := 1) X dX5_dayOn_211 (by decide) ?_
    refine cd_X5_56 X dX5_dayOn_212 (m_hoF l (w := 1) hn hN hh (by decide)) (gM_t hn) rfl (Nat.le_of_ble_eq_true rfl) ⟨(Nat.le_of_ble_eq_true rfl), (Nat.le_of_ble_eq_true rfl), (Nat.le_of_ble_eq_true rfl), (Nat.le_of_ble_eq_true rfl)⟩ ?_
    refine v_isub X dX5_dayOn_215 ?_
    refine v_istore4 X rfl (Nat.le_of_ble_eq_true rfl) dX5_dayOn_216 ?_
    refine v_iload X dX5_dayOn_218 rfl ?_
    refine v_if_le (tgt := 239) X dX5_dayOn_220 (by decide) (fun hc2 => ?_) (fun hc2 => ?_)
    · refine v_ico (v := 0) X dX5_dayOn_239 (by decide) ?_
      refine vV.le (A := [some (.ref (ad 54)), some (.int (dayTh ra S)), some (.int (nI (dayN S))), some (.int (nI h)), none, none]) ⟨rfl, rfl, rfl, rfl, trivial⟩ ?_
      refine hG 0 ?_
      unfold gardF
      rw [if_neg (Int32.not_lt.mpr hc2), Int32.sub_zero, Int32.add_zero, upd_eta, upd_eta]
    refine v_aload0 X dX5_dayOn_223 rfl ?_
    refine v_iload3 X dX5_dayOn_224 rfl ?_
    refine v_ico (v := 4) X dX5_dayOn_225 (by decide) ?_
    refine cd_X5_56 X dX5_dayOn_226 (m_hoF l (w := 4) hn hN hh (by decide)) (gM_t hn) rfl (Nat.le_of_ble_eq_true rfl) ⟨(Nat.le_of_ble_eq_true rfl), (Nat.le_of_ble_eq_true rfl), (Nat.le_of_ble_eq_true rfl), (Nat.le_of_ble_eq_true rfl)⟩ ?_
    refine v_iload X dX5_dayOn_229 rfl ?_
    refine v_ico (v := 2) X dX5_dayOn_231 (by decide) ?_
    refine v_idiv X dX5_dayOn_232 (by decide) ?_
    refine v_mmin X dX5_dayOn_233 wm_X5_70 wt_J9_min_7cf53 wz_J9 wc_J9_min_7cf53 ⟨(Nat.le_of_ble_eq_true rfl), (Nat.le_of_ble_eq_true rfl), (Nat.le_of_ble_eq_true rfl), (Nat.le_of_ble_eq_true rfl)⟩ ?_
    refine v_goto (tgt := 240) X dX5_dayOn_236 (by decide) ?_
    refine vV.le (A := [some (.ref (ad 54)), some (.int (dayTh ra S)), some (.int (nI (dayN S))), some (.int (nI h)), none, none]) ⟨rfl, rfl, rfl, rfl, trivial⟩ ?_
    refine hG (gvnF (sH T h)) ?_
    unfold gardF
    rw [if_pos (Int32.not_le.mp hc2)]
  intro hT3
  rw [show itr gardS 0 (sN S) (day2 ra S) = day3 ra S from rfl]
  have hN3 : sN (day3 ra S) = sN S := o3.2.1
  refine v_iload3 X dX5_dayOn_193 rfl ?_
  refine v_aload0 X dX5_dayOn_194 rfl ?_
  refine gf_X5_32 X dX5_dayOn_195 (gM_t hn) ?_
  refine v_icmp_ge (tgt := 280) X dX5_dayOn_198 (by decide) (fun hc3 => ?_) (fun hc3 => ?_)
  rotate_left
  · exact absurd (show nI (sN (day3 ra S)) ≤ nI (sN S) by rw [hN3]; exact Int32.le_refl _) hc3
  refine v_ico (v := 0) X dX5_dayOn_280 (by decide) ?_
  refine v_istore3 X rfl (Nat.le_of_ble_eq_true rfl) dX5_dayOn_281 ?_
  -- pipes
  refine loop_inv evenS (fun _ T => ok T ∧ same S T) (fun h T => vV p l e (rmv 2 67) s m ([.ref (ad 54)] : List Value).toArray below meth c 6 z0 D 0 0 Q n ad (gM cy ad th ra le T g) 282 [some (.ref (ad 54)), some (.int (dayTh ra S)), some (.int (nI (dayN S))), some (.int (nI h)), none, none] []) (sP S) (fun i T hi hT => ?_) ?_ (sP S) 0 (day3 ra S) (Nat.zero_add _) o3 ?_
  · obtain ⟨a, b⟩ := evenS_ok (p := i) hT.1 (by rw [hT.2.2.1]; exact hi)
    exact ⟨a, hT.2.tr b⟩
  · intro h T hi hT hk1
    have hP := hT.1.2.1
    have hh : h < sP T := by rw [hT.2.2.1]; exact hi
    obtain ⟨-, -, -, -, -, -, -, hb⟩ := okQ_ends hT.1 hh
    refine v_iload3 X dX5_dayOn_282 rfl ?_
    refine v_aload0 X dX5_dayOn_283 rfl ?_
    refine gf_X5_39 X dX5_dayOn_284 (gM_t hn) ?_
    refine v_icmp_ge (tgt := 311) X dX5_dayOn_287 (by decide) (fun hc => ?_) (fun hc => ?_)
    · exact absurd hc (nIge hh (by omega))
    refine v_aload0 X dX5_dayOn_290 rfl ?_
    refine v_iload3 X dX5_dayOn_291 rfl ?_
    refine v_ico (v := 3) X dX5_dayOn_292 (by decide) ?_
    refine cd_X5_67 X dX5_dayOn_293 (m_pi l (w := 3) hn hP hh (by decide)) (gM_t hn) rfl (Nat.le_of_ble_eq_true rfl) ⟨(Nat.le_of_ble_eq_true rfl), (Nat.le_of_ble_eq_true rfl), (Nat.le_of_ble_eq_true rfl), (Nat.le_of_ble_eq_true rfl)⟩ ?_
    refine v_ico (v := 1) X dX5_dayOn_296 (by decide) ?_
    refine v_icmp_ne (tgt := 305) X dX5_dayOn_297 (by decide) (fun hc2 => ?_) (fun hc2 => ?_)
    · refine v_iinc3 (v := nI (h + 1)) X rfl (Nat.le_of_ble_eq_true rfl) dX5_dayOn_305 (nI_inc h) ?_
      refine v_goto (tgt := 282) X dX5_dayOn_308 (by decide) ?_
      have hs : evenS h T = T := if_pos (hb.resolve_right hc2)
      rw [hs] at hk1
      exact hk1
    refine v_aload0 X dX5_dayOn_300 rfl ?_
    refine v_iload3 X dX5_dayOn_301 rfl ?_
    refine cd_X5_84 X dX5_dayOn_302 (m_even l hn hT.1 hh) (gM_t hn) rfl (Nat.le_of_ble_eq_true rfl) ⟨(Nat.le_of_ble_eq_true rfl), (Nat.le_of_ble_eq_true rfl), (Nat.le_of_ble_eq_true rfl), (Nat.le_of_ble_eq_true rfl)⟩ ?_
    refine v_iinc3 (v := nI (h + 1)) X rfl (Nat.le_of_ble_eq_true rfl) dX5_dayOn_305 (nI_inc h) ?_
    refine v_goto (tgt := 282) X dX5_dayOn_308 (by decide) ?_
    have hs : evenS h T = evenT h T := if_neg (by rw [hc2]; decide)
    rw [hs] at hk1
    exact hk1
  intro hT4
  rw [show itr evenS 0 (sP S) (day3 ra S) = day4 ra S from rfl]
  have hN4 : sN (day4 ra S) = sN S := o4.2.1
  have hP4 : sP (day4 ra S) = sP S := o4.2.2.1
  refine v_iload3 X dX5_dayOn_282 rfl ?_
  refine v_aload0 X dX5_dayOn_283 rfl ?_
  refine gf_X5_39 X dX5_dayOn_284 (gM_t hn) ?_
  refine v_icmp_ge (tgt := 311) X dX5_dayOn_287 (by decide) (fun hc4 => ?_) (fun hc4 => ?_)
  rotate_left
  · exact absurd (show nI (sP (day4 ra S)) ≤ nI (sP S) by rw [hP4]; exact Int32.le_refl _) hc4
  refine v_ico (v := 0) X dX5_dayOn_311 (by decide) ?_
  refine v_istore3 X rfl (Nat.le_of_ble_eq_true rfl) dX5_dayOn_312 ?_
  -- leaves
  refine loop_inv (clogS (le (dayN S))) (fun _ T => ok T ∧ same S T) (fun h T => vV p l e (rmv 2 67) s m ([.ref (ad 54)] : List Value).toArray below meth c 6 z0 D 0 0 Q n ad (gM cy ad th ra le T g) 313 [some (.ref (ad 54)), some (.int (dayTh ra S)), some (.int (nI (dayN S))), some (.int (nI h)), none, none] []) (sN S) (fun i T hi hT => ?_) ?_ (sN S) 0 (day4 ra S) (Nat.zero_add _) o4 ?_
  · obtain ⟨a, b⟩ := clogS_ok (i := i) hT.1 (hwk.2 _ (dayN_lt S))
    exact ⟨a, hT.2.tr b⟩
  · intro h T hi hT hk1
    have hN := hT.1.1
    have hh : h < sN T := by rw [hT.2.1]; exact hi
    refine v_iload3 X dX5_dayOn_313 rfl ?_
    refine v_aload0 X dX5_dayOn_314 rfl ?_
    refine gf_X5_32 X dX5_dayOn_315 (gM_t hn) ?_
    refine v_icmp_ge (tgt := 351) X dX5_dayOn_318 (by decide) (fun hc => ?_) (fun hc => ?_)
    · exact absurd hc (nIge hh (by omega))
    refine vV.gg (show _ = gM cy ad th ra le (hU T h (sH T h)) g by rw [hU_self]) ?_
    refine v_aload0 X dX5_dayOn_321 rfl ?_
    refine v_iload3 X dX5_dayOn_322 rfl ?_
    refine v_ico (v := 5) X dX5_dayOn_323 (by decide) ?_
    refine v_bip (v := 10) X dX5_dayOn_324 (by decide) ?_
    refine v_aload0 X dX5_dayOn_326 rfl ?_
    refine v_iload3 X dX5_dayOn_327 rfl ?_
    refine v_ico (v := 5) X dX5_dayOn_328 (by decide) ?_
    refine cd_X5_56 X dX5_dayOn_329 (m_hoF l (w := 5) hn hN hh (by decide)) (gM_t hn) rfl (Nat.le_of_ble_eq_true rfl) ⟨(Nat.le_of_ble_eq_true rfl), (Nat.le_of_ble_eq_true rfl), (Nat.le_of_ble_eq_true rfl), (Nat.le_of_ble_eq_true rfl)⟩ ?_
    refine v_aload0 X dX5_dayOn_332 rfl ?_
    refine gf_X5_13 X dX5_dayOn_333 (gM_t hn) ?_
    refine v_iload2 X dX5_dayOn_336 rfl ?_
    refine v_iald X dX5_dayOn_337 (gM_e hn) rfl (dayN_lt S) (by decide) ?_
    refine v_iadd X dX5_dayOn_338 ?_
    refine v_mmin X dX5_dayOn_339 wm_X5_70 wt_J9_min_7cf53 wz_J9 wc_J9_min_7cf53 ⟨(Nat.le_of_ble_eq_true rfl), (Nat.le_of_ble_eq_true rfl), (Nat.le_of_ble_eq_true rfl), (Nat.le_of_ble_eq_true rfl)⟩ ?_
    refine cd_X5_60 X dX5_dayOn_342 (m_setF l (w := 5) hn hN hh (by decide)) (gM_t hn) rfl (Nat.le_of_ble_eq_true rfl) ⟨(Nat.le_of_ble_eq_true rfl), (Nat.le_of_ble_eq_true rfl), (Nat.le_of_ble_eq_true rfl), (Nat.le_of_ble_eq_true rfl)⟩ ?_
    refine v_iinc3 (v := nI (h + 1)) X rfl (Nat.le_of_ble_eq_true rfl) dX5_dayOn_345 (nI_inc h) ?_
    refine v_goto (tgt := 313) X dX5_dayOn_348 (by decide) ?_
    exact hk1
  intro hT5
  rw [show itr (clogS (le (dayN S))) 0 (sN S) (day4 ra S) = day5 ra le S from rfl]
  have hN5 : sN (day5 ra le S) = sN S := o5.2.1
  refine v_iload3 X dX5_dayOn_313 rfl ?_
  refine v_aload0 X dX5_dayOn_314 rfl ?_
  refine gf_X5_32 X dX5_dayOn_315 (gM_t hn) ?_
  refine v_icmp_ge (tgt := 351) X dX5_dayOn_318 (by decide) (fun hc5 => ?_) (fun hc5 => ?_)
  rotate_left
  · exact absurd (show nI (sN (day5 ra le S)) ≤ nI (sN S) by rw [hN5]; exact Int32.le_refl _) hc5
  refine v_aload0 X dX5_dayOn_351 rfl ?_
  refine gf_X5_25 X dX5_dayOn_352 (gM_t hn) ?_
  refine v_ico (v := 0) X dX5_dayOn_355 (by decide) ?_
  refine v_dup2 X dX5_dayOn_356 rfl rfl ?_
  refine v_iald X dX5_dayOn_357 (gM_m hn) rfl (by decide) (by decide) ?_
  refine v_ico (v := 1) X dX5_dayOn_358 (by decide) ?_
  refine v_iadd X dX5_dayOn_359 ?_
  refine v_iast X dX5_dayOn_360 (gM_m hn) rfl (by decide) (by decide) ?_
  refine vV.gg (gM_upM) ?_
  refine v_iload1 X dX5_dayOn_361 rfl ?_
  rw [← hQ]
  exact v_iret X hr hlk dX5_dayOn_362 ⟨rfl, rfl, rfl, rfl⟩
