/-! the model's days, sums, and the methods that keep nothing -/
def thD (ra le : Nat → Int32) (_ : Nat) (q : Int32 × tS) : Int32 × tS := (q.1 + dayTh ra q.2, dayS ra le q.2)
theorem thD_2 {ra le : Nat → Int32} : ∀ (k i : Nat) (q : Int32 × tS), (itr (thD ra le) i k q).2 = itr (fun _ => dayS ra le) i k q.2
  | 0, _, _ => rfl
  | k + 1, i, q => thD_2 k (i + 1) (thD ra le i q)
def thDs (ra le : Nat → Int32) (k : Nat) (S : tS) : Int32 := (itr (thD ra le) 0 k (0, S)).1
set_option maxRecDepth 100000 in
set_option maxHeartbeats 4000000 in
theorem m_daysOn (l : Launch) {z0 n : Nat} {D : va_G} {cy : Nat → ClassId} {ad : Nat → Nat} {d k : Nat} {th : Int32} {ra le : Nat → Int32} {S : tS} {g : Nat → va_E} (hn : 61 ≤ n) (ho : ok S) (hwk : wok ra le) (hd : sM S 0 = nI d) (hd2 : d + k < 2 ^ 31) : Ct0 l yX5_daysOn cX5_daysOn 4 (some FieldType.int) 3 92 z0 D cy n ad (gM cy ad th ra le S g) [.ref (ad 54), .int (nI k)] (some (.int (thDs ra le k S))) (gM cy ad th ra le (daysS ra le k S) g) := by
  refine ct_of (by decide +kernel) 2 [some (.ref (ad 54)), some (.int (nI k)), none, none] (Nat.le_of_ble_eq_true rfl) rfl ?_
  intro p e s m below meth c X hr hlk hnm
  generalize hQ : MQ below (QcR z0 D (isR (some (.int (thDs ra le k S))) n ad (gM cy ad th ra le (daysS ra le k S) g))) ([.ref (ad 54), .int (nI k)] : List Value).toArray s 0 0 (fun q => z0 ≤ q) = Q
  refine v_ico (v := 0) X dX5_daysOn_0 (by decide) ?_
  refine v_istore2 X rfl (Nat.le_of_ble_eq_true rfl) dX5_daysOn_1 ?_
  refine v_ico (v := 0) X dX5_daysOn_2 (by decide) ?_
  refine v_istore3 X rfl (Nat.le_of_ble_eq_true rfl) dX5_daysOn_3 ?_
  refine loop_inv (thD ra le) (fun i q => ok q.2 ∧ sM q.2 0 = nI (d + i)) (fun i q => vV p l e (rmv 3 92) s m ([.ref (ad 54), .int (nI k)] : List Value).toArray below meth c 4 z0 D 0 0 Q n ad (gM cy ad th ra le q.2 g) 4 [some (.ref (ad 54)), some (.int (nI k)), some (.int q.1), some (.int (nI i))] []) k (fun i q hi hT => ?_) ?_ k 0 (0, S) (Nat.zero_add _) ⟨ho, hd⟩ ?_
  · obtain ⟨a1, a2, a3, a4⟩ := dayS_ok hwk hT.1
    exact ⟨a1, by show sM (dayS ra le q.2) 0 = _; rw [a4, hT.2, nI_1]; rfl⟩
  · rintro i ⟨t0, T⟩ hi hT hk1
    refine v_iload3 X dX5_daysOn_4 rfl ?_
    refine v_iload1 X dX5_daysOn_5 rfl ?_
    refine v_icmp_ge (tgt := 22) X dX5_daysOn_6 (by decide) (fun hc => ?_) (fun hc => ?_)
    · exact absurd hc (nIge hi (by omega))
    refine v_iload2 X dX5_daysOn_9 rfl ?_
    refine v_aload0 X dX5_daysOn_10 rfl ?_
    refine cd_X5_88 X dX5_daysOn_11 (m_dayOn l (d := d + i) hn hT.1 hwk hT.2 (by omega)) (gM_t hn) rfl (Nat.le_of_ble_eq_true rfl) ⟨(Nat.le_of_ble_eq_true rfl), (Nat.le_of_ble_eq_true rfl), (Nat.le_of_ble_eq_true rfl), (Nat.le_of_ble_eq_true rfl)⟩ ?_
    refine v_iadd X dX5_daysOn_14 ?_
    refine v_istore2 X rfl (Nat.le_of_ble_eq_true rfl) dX5_daysOn_15 ?_
    refine v_iinc3 (v := nI (i + 1)) X rfl (Nat.le_of_ble_eq_true rfl) dX5_daysOn_16 (nI_inc i) ?_
    refine v_goto (tgt := 4) X dX5_daysOn_19 (by decide) ?_
    exact hk1
  intro hT
  have e2 : (itr (thD ra le) 0 k (0, S)).2 = daysS ra le k S := thD_2 _ _ _
  rw [e2]
  refine v_iload3 X dX5_daysOn_4 rfl ?_
  refine v_iload1 X dX5_daysOn_5 rfl ?_
  refine v_icmp_ge (tgt := 22) X dX5_daysOn_6 (by decide) (fun hc => ?_) (fun hc => ?_)
  · refine v_iload2 X dX5_daysOn_22 rfl ?_
    rw [← hQ]
    exact v_iret X hr hlk dX5_daysOn_23 ⟨rfl, rfl, rfl, rfl⟩
  exact absurd (Int32.le_refl _) hc
set_option maxRecDepth 100000 in
set_option maxHeartbeats 4000000 in
theorem m_all (l : Launch) {z0 n : Nat} {D : va_G} {cy : Nat → ClassId} {ad : Nat → Nat} {w : Nat} {th : Int32} {ra le : Nat → Int32} {S : tS} {g : Nat → va_E} (hn : 61 ≤ n) (hN : sN S ≤ 10) (hw : w < 10) : Ct0 l yX5_all cX5_all 4 (some FieldType.int) 1 22 z0 D cy n ad (gM cy ad th ra le S g) [.ref (ad 54), .int (nI w)] (some (.int (sumS w S))) (gM cy ad th ra le S g) := by
  refine ct_of (by decide +kernel) 2 [some (.ref (ad 54)), some (.int (nI w)), none, none] (Nat.le_of_ble_eq_true rfl) rfl ?_
  intro p e s m below meth c X hr hlk hnm
  generalize hQ : MQ below (QcR z0 D (isR (some (.int (sumS w S))) n ad (gM cy ad th ra le S g))) ([.ref (ad 54), .int (nI w)] : List Value).toArray s 0 0 (fun q => z0 ≤ q) = Q
  refine v_ico (v := 0) X dX5_all_0 (by decide) ?_
  refine v_istore2 X rfl (Nat.le_of_ble_eq_true rfl) dX5_all_1 ?_
  refine v_ico (v := 0) X dX5_all_2 (by decide) ?_
  refine v_istore3 X rfl (Nat.le_of_ble_eq_true rfl) dX5_all_3 ?_
  refine loop_up (fun i a => a + sH S i w) (fun i a => vV p l e (rmv 1 22) s m ([.ref (ad 54), .int (nI w)] : List Value).toArray below meth c 4 z0 D 0 0 Q n ad (gM cy ad th ra le S g) 4 [some (.ref (ad 54)), some (.int (nI w)), some (.int a), some (.int (nI i))] []) (sN S) ?_ (sN S) 0 0 (Nat.zero_add _) ?_
  · intro i a hi hk
    refine v_iload3 X dX5_all_4 rfl ?_
    refine v_aload0 X dX5_all_5 rfl ?_
    refine gf_X5_32 X dX5_all_6 (gM_t hn) ?_
    refine v_icmp_ge (tgt := 27) X dX5_all_9 (by decide) (fun hc => ?_) (fun hc => ?_)
    · exact absurd hc (nIge hi (by omega))
    refine v_iload2 X dX5_all_12 rfl ?_
    refine v_aload0 X dX5_all_13 rfl ?_
    refine v_iload3 X dX5_all_14 rfl ?_
    refine v_iload1 X dX5_all_15 rfl ?_
    refine cd_X5_56 X dX5_all_16 (m_ho l hn hN hi hw) (gM_t hn) rfl (Nat.le_of_ble_eq_true rfl) ⟨(Nat.le_of_ble_eq_true rfl), (Nat.le_of_ble_eq_true rfl), (Nat.le_of_ble_eq_true rfl), (Nat.le_of_ble_eq_true rfl)⟩ ?_
    refine v_iadd X dX5_all_19 ?_
    refine v_istore2 X rfl (Nat.le_of_ble_eq_true rfl) dX5_all_20 ?_
    refine v_iinc3 (v := nI (i + 1)) X rfl (Nat.le_of_ble_eq_true rfl) dX5_all_21 (nI_inc i) ?_
    refine v_goto (tgt := 4) X dX5_all_24 (by decide) ?_
    exact hk
  refine v_iload3 X dX5_all_4 rfl ?_
  refine v_aload0 X dX5_all_5 rfl ?_
  refine gf_X5_32 X dX5_all_6 (gM_t hn) ?_
  refine v_icmp_ge (tgt := 27) X dX5_all_9 (by decide) (fun hc => ?_) (fun hc => ?_)
  · refine v_iload2 X dX5_all_27 rfl ?_
    rw [← hQ]
    exact v_iret X hr hlk dX5_all_28 ⟨rfl, rfl, rfl, rfl⟩
  exact absurd (Int32.le_refl _) hc
set_option maxRecDepth 100000 in
set_option maxHeartbeats 4000000 in
theorem m_counted (l : Launch) {z0 n : Nat} {D : va_G} {cy : Nat → ClassId} {ad : Nat → Nat} {j : Nat} {th : Int32} {ra le : Nat → Int32} {S : tS} {g : Nat → va_E} (hn : 61 ≤ n) (hN : sN S ≤ 10) (hP : sP S ≤ 12) (hj : j < 11) : Ct0 l yX5_counted cX5_counted 4 (some FieldType.int) 2 45 z0 D cy n ad (gM cy ad th ra le S g) [.ref (ad 54), .int (nI j)] (some (.int (totalS S j))) (gM cy ad th ra le S g) := by
  refine ct_of (by decide +kernel) 2 [some (.ref (ad 54)), some (.int (nI j)), none, none] (Nat.le_of_ble_eq_true rfl) rfl ?_
  intro p e s m below meth c X hr hlk hnm
  generalize hQ : MQ below (QcR z0 D (isR (some (.int (totalS S j))) n ad (gM cy ad th ra le S g))) ([.ref (ad 54), .int (nI j)] : List Value).toArray s 0 0 (fun q => z0 ≤ q) = Q
  refine v_ico (v := 0) X dX5_counted_0 (by decide) ?_
  refine v_istore2 X rfl (Nat.le_of_ble_eq_true rfl) dX5_counted_1 ?_
  refine v_iload1 X dX5_counted_2 rfl ?_
  match j, hj, hQ with
  | 0, _, hQ =>
    refine v_tabIn (off := 53) (tgt := 56) X dX5_counted_3 (by decide) (by decide) (by decide) (by decide) ?_
    refine v_aload0 X dX5_counted_56 rfl ?_
    refine gf_X5_25 X dX5_counted_57 (gM_t hn) ?_
    refine v_ico (v := 0) X dX5_counted_60 (by decide) ?_
    refine v_iald X dX5_counted_61 (gM_m hn) rfl (by decide) (by decide) ?_
    rw [← hQ]
    exact v_iret X hr hlk dX5_counted_62 ⟨rfl, rfl, rfl, rfl⟩
  | 1, _, hQ =>
    refine v_tabIn (off := 60) (tgt := 63) X dX5_counted_3 (by decide) (by decide) (by decide) (by decide) ?_
    refine v_aload0 X dX5_counted_63 rfl ?_
    refine gf_X5_32 X dX5_counted_64 (gM_t hn) ?_
    rw [← hQ]
    exact v_iret X hr hlk dX5_counted_67 ⟨rfl, rfl, rfl, rfl⟩
  | 2, _, hQ =>
    refine v_tabIn (off := 65) (tgt := 68) X dX5_counted_3 (by decide) (by decide) (by decide) (by decide) ?_
    refine v_aload0 X dX5_counted_68 rfl ?_
    refine gf_X5_39 X dX5_counted_69 (gM_t hn) ?_
    rw [← hQ]
    exact v_iret X hr hlk dX5_counted_72 ⟨rfl, rfl, rfl, rfl⟩
  | 3, _, hQ =>
    refine v_tabIn (off := 70) (tgt := 73) X dX5_counted_3 (by decide) (by decide) (by decide) (by decide) ?_
    refine v_aload0 X dX5_counted_73 rfl ?_
    refine v_ico (v := 2) X dX5_counted_74 (by decide) ?_
    refine cd_X5_95 X dX5_counted_75 (m_all l (w := 2) hn hN (by decide)) (gM_t hn) rfl (Nat.le_of_ble_eq_true rfl) ⟨(Nat.le_of_ble_eq_true rfl), (Nat.le_of_ble_eq_true rfl), (Nat.le_of_ble_eq_true rfl), (Nat.le_of_ble_eq_true rfl)⟩ ?_
    rw [← hQ]
    exact v_iret X hr hlk dX5_counted_78 ⟨rfl, rfl, rfl, rfl⟩
  | 4, _, hQ =>
    refine v_tabIn (off := 76) (tgt := 79) X dX5_counted_3 (by decide) (by decide) (by decide) (by decide) ?_
    refine v_aload0 X dX5_counted_79 rfl ?_
    refine v_bip (v := 7) X dX5_counted_80 (by decide) ?_
    refine cd_X5_95 X dX5_counted_82 (m_all l (w := 7) hn hN (by decide)) (gM_t hn) rfl (Nat.le_of_ble_eq_true rfl) ⟨(Nat.le_of_ble_eq_true rfl), (Nat.le_of_ble_eq_true rfl), (Nat.le_of_ble_eq_true rfl), (Nat.le_of_ble_eq_true rfl)⟩ ?_
    rw [← hQ]
    exact v_iret X hr hlk dX5_counted_85 ⟨rfl, rfl, rfl, rfl⟩
  | 5, _, hQ =>
    refine v_tabIn (off := 83) (tgt := 86) X dX5_counted_3 (by decide) (by decide) (by decide) (by decide) ?_
    refine v_aload0 X dX5_counted_86 rfl ?_
    refine gf_X5_25 X dX5_counted_87 (gM_t hn) ?_
    refine v_iload1 X dX5_counted_90 rfl ?_
    refine v_ico (v := 4) X dX5_counted_91 (by decide) ?_
    refine v_isub X dX5_counted_92 ?_
    refine v_iald (j := 1) X dX5_counted_93 (gM_m hn) (by decide) (by decide) (by decide) ?_
    rw [← hQ]
    exact v_iret X hr hlk dX5_counted_94 ⟨rfl, rfl, rfl, rfl⟩
  | 6, _, hQ =>
    refine v_tabIn (off := 83) (tgt := 86) X dX5_counted_3 (by decide) (by decide) (by decide) (by decide) ?_
    refine v_aload0 X dX5_counted_86 rfl ?_
    refine gf_X5_25 X dX5_counted_87 (gM_t hn) ?_
    refine v_iload1 X dX5_counted_90 rfl ?_
    refine v_ico (v := 4) X dX5_counted_91 (by decide) ?_
    refine v_isub X dX5_counted_92 ?_
    refine v_iald (j := 2) X dX5_counted_93 (gM_m hn) (by decide) (by decide) (by decide) ?_
    rw [← hQ]
    exact v_iret X hr hlk dX5_counted_94 ⟨rfl, rfl, rfl, rfl⟩
  | 7, _, hQ =>
    refine v_tabIn (off := 83) (tgt := 86) X dX5_counted_3 (by decide) (by decide) (by decide) (by decide) ?_
    refine v_aload0 X dX5_counted_86 rfl ?_
    refine gf_X5_25 X dX5_counted_87 (gM_t hn) ?_
    refine v_iload1 X dX5_counted_90 rfl ?_
    refine v_ico (v := 4) X dX5_counted_91 (by decide) ?_
    refine v_isub X dX5_counted_92 ?_
    refine v_iald (j := 3) X dX5_counted_93 (gM_m hn) (by decide) (by decide) (by decide) ?_
    rw [← hQ]
    exact v_iret X hr hlk dX5_counted_94 ⟨rfl, rfl, rfl, rfl⟩
  | 8, _, hQ =>
    refine v_tabIn (off := 92) (tgt := 95) X dX5_counted_3 (by decide) (by decide) (by decide) (by decide) ?_
    refine v_aload0 X dX5_counted_95 rfl ?_
    refine v_bip (v := 8) X dX5_counted_96 (by decide) ?_
    refine cd_X5_95 X dX5_counted_98 (m_all l (w := 8) hn hN (by decide)) (gM_t hn) rfl (Nat.le_of_ble_eq_true rfl) ⟨(Nat.le_of_ble_eq_true rfl), (Nat.le_of_ble_eq_true rfl), (Nat.le_of_ble_eq_true rfl), (Nat.le_of_ble_eq_true rfl)⟩ ?_
    rw [← hQ]
    exact v_iret X hr hlk dX5_counted_101 ⟨rfl, rfl, rfl, rfl⟩
  | 9, _, hQ =>
    refine v_tabIn (off := 99) (tgt := 102) X dX5_counted_3 (by decide) (by decide) (by decide) (by decide) ?_
    refine v_aload0 X dX5_counted_102 rfl ?_
    refine gf_X5_25 X dX5_counted_103 (gM_t hn) ?_
    refine v_ico (v := 4) X dX5_counted_106 (by decide) ?_
    refine v_iald X dX5_counted_107 (gM_m hn) rfl (by decide) (by decide) ?_
    rw [← hQ]
    exact v_iret X hr hlk dX5_counted_108 ⟨rfl, rfl, rfl, rfl⟩
  | 10, _, hQ =>
    refine v_tabOut (tgt := 109) X dX5_counted_3 (by decide) (by decide) ?_
    refine v_ico (v := 0) X dX5_counted_109 (by decide) ?_
    refine v_istore3 X rfl (Nat.le_of_ble_eq_true rfl) dX5_counted_110 ?_
    refine loop_up (fun p a => a + sQ S p 3) (fun i a => vV p l e _ s m _ below meth c _ z0 D 0 0 Q n ad (gM cy ad th ra le S g) 111 [some (.ref (ad 54)), some (.int (nI 10)), some (.int a), some (.int (nI i))] []) (sP S) ?_ (sP S) 0 0 (Nat.zero_add _) ?_
    · intro i a hi hk
      refine v_iload3 X dX5_counted_111 rfl ?_
      refine v_aload0 X dX5_counted_112 rfl ?_
      refine gf_X5_39 X dX5_counted_113 (gM_t hn) ?_
      refine v_icmp_ge (tgt := 134) X dX5_counted_116 (by decide) (fun hc => ?_) (fun hc => ?_)
      · exact absurd hc (nIge hi (by omega))
      refine v_iload2 X dX5_counted_119 rfl ?_
      refine v_aload0 X dX5_counted_120 rfl ?_
      refine v_iload3 X dX5_counted_121 rfl ?_
      refine v_ico (v := 3) X dX5_counted_122 (by decide) ?_
      refine cd_X5_67 X dX5_counted_123 (m_pi l (w := 3) hn hP hi (by decide)) (gM_t hn) rfl (Nat.le_of_ble_eq_true rfl) ⟨(Nat.le_of_ble_eq_true rfl), (Nat.le_of_ble_eq_true rfl), (Nat.le_of_ble_eq_true rfl), (Nat.le_of_ble_eq_true rfl)⟩ ?_
      refine v_iadd X dX5_counted_126 ?_
      refine v_istore2 X rfl (Nat.le_of_ble_eq_true rfl) dX5_counted_127 ?_
      refine v_iinc3 (v := nI (i + 1)) X rfl (Nat.le_of_ble_eq_true rfl) dX5_counted_128 (nI_inc i) ?_
      refine v_goto (tgt := 111) X dX5_counted_131 (by decide) ?_
      exact hk
    refine v_iload3 X dX5_counted_111 rfl ?_
    refine v_aload0 X dX5_counted_112 rfl ?_
    refine gf_X5_39 X dX5_counted_113 (gM_t hn) ?_
    refine v_icmp_ge (tgt := 134) X dX5_counted_116 (by decide) (fun hc => ?_) (fun hc => ?_)
    · refine v_iload2 X dX5_counted_134 rfl ?_
      rw [← hQ]
      exact v_iret X hr hlk dX5_counted_135 ⟨rfl, rfl, rfl, rfl⟩
    exact absurd (Int32.le_refl _) hc
  | j + 11, h, _ => exact absurd h (by omega)
theorem gM_upR {cy : Nat → ClassId} {ad : Nat → Nat} {th : Int32} {ra le f : Nat → Int32} {S : tS} {g : Nat → va_E} : va_up (gM cy ad th ra le S g) 55 (iA cy 28 f) = gM cy ad th f le S g := gM0_1
theorem gM_upE {cy : Nat → ClassId} {ad : Nat → Nat} {th : Int32} {ra le f : Nat → Int32} {S : tS} {g : Nat → va_E} : va_up (gM cy ad th ra le S g) 56 (iA cy 28 f) = gM cy ad th ra f S g := gM0_2
