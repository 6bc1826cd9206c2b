/-! what stays through days; the model looks ahead -/
def kpS (S T : tS) : Prop := (∀ k, 5 ≤ k → sM T k = sM S k) ∧ (∀ k, 100 ≤ k → sF T k = sF S k)
theorem kpS.rf {S : tS} : kpS S S := ⟨fun _ _ => rfl, fun _ _ => rfl⟩
theorem kpS.tr {S T U : tS} (h1 : kpS S T) (h2 : kpS T U) : kpS S U := ⟨fun k hk => (h2.1 k hk).trans (h1.1 k hk), fun k hk => (h2.2 k hk).trans (h1.2 k hk)⟩
theorem kp_itr {f : Nat → tS → tS} {S0 : tS} {K : Nat} (hf : ∀ i T, i < K → ok T → same S0 T → (ok (f i T) ∧ same T (f i T)) ∧ kpS T (f i T)) {S : tS} (ho : ok S) (hs : same S0 S) : kpS S (itr f 0 K S) :=
  (itr_inv f (fun _ T => ok T ∧ same S0 T ∧ kpS S T) K (fun i T hi hT => by
    obtain ⟨⟨b1, b2⟩, b3⟩ := hf i T hi hT.1 hT.2.1
    exact ⟨b1, hT.2.1.tr b2, hT.2.2.tr b3⟩) K 0 S (Nat.zero_add _) ⟨ho, hs, kpS.rf⟩).2.2
theorem kp_even {T : tS} {p : Nat} (ho : ok T) (hp : p < sP T) : kpS T (evenS p T) := by
  unfold evenS
  split
  · exact kpS.rf
  · obtain ⟨hA, hB, -⟩ := okQ_ends ho hp
    have hN := ho.1
    refine ⟨fun _ _ => rfl, fun k hk => ?_⟩
    show upd (sF T) (evI T p) _ k = _
    refine upd_n _ _ ?_
    unfold evI
    split <;> omega
theorem kp_day {ra le : Nat → Int32} (hwk : wok ra le) {S : tS} (ho : ok S) : kpS S (dayS ra le S) := by
  obtain ⟨o1, s1⟩ := day1_ok (ra := ra) (le := le) hwk ho
  obtain ⟨o2, s2⟩ := day2_ok (ra := ra) (le := le) hwk ho
  obtain ⟨o3, s3⟩ := day3_ok (ra := ra) (le := le) hwk ho
  obtain ⟨o4, s4⟩ := day4_ok (ra := ra) (le := le) hwk ho
  have k1 : kpS S (day1 ra S) := kp_itr (S0 := S) (fun i T hi hT hs => ⟨rainS_ok hT (by rw [hs.1]; exact hi) (hwk.1 _ (dayN_lt S)), ⟨fun k hk => by show upd (upd (sM T) 1 _) 2 _ k = _; rw [upd_n _ _ (by omega), upd_n _ _ (by omega)], fun _ _ => rfl⟩⟩) ho same.rf
  have k2 : kpS (day1 ra S) (day2 ra S) := kp_itr (S0 := S) (fun i T hi hT hs => ⟨drinkS_ok hT, ⟨fun k hk => upd_n _ _ (by omega), fun _ _ => rfl⟩⟩) o1 s1
  have k3 : kpS (day2 ra S) (day3 ra S) := kp_itr (S0 := S) (fun i T hi hT hs => ⟨gardS_ok hT, kpS.rf⟩) o2 s2
  have k4 : kpS (day3 ra S) (day4 ra S) := kp_itr (S0 := S) (fun i T hi hT hs => ⟨evenS_ok hT (by rw [hs.2.1]; exact hi), kp_even hT (by rw [hs.2.1]; exact hi)⟩) o3 s3
  have k5 : kpS (day4 ra S) (day5 ra le S) := kp_itr (S0 := S) (fun i T hi hT hs => ⟨clogS_ok hT (hwk.2 _ (dayN_lt S)), kpS.rf⟩) o4 s4
  have k6 : kpS (day5 ra le S) (dayS ra le S) := ⟨fun k hk => upd_n _ _ (by omega), fun _ _ => rfl⟩
  exact k1.tr (k2.tr (k3.tr (k4.tr (k5.tr k6))))
theorem kp_days {ra le : Nat → Int32} (hwk : wok ra le) {S : tS} (ho : ok S) (k : Nat) : kpS S (daysS ra le k S) :=
  (itr_inv (fun _ => dayS ra le) (fun _ T => ok T ∧ kpS S T) k (fun i T hi hT => ⟨(dayS_ok hwk hT.1).1, hT.2.tr (kp_day hwk hT.1)⟩) k 0 S (Nat.zero_add _) ⟨ho, kpS.rf⟩).2
theorem gM_T {cy : Nat → ClassId} {ad : Nat → Nat} {th : Int32} {ra le : Nat → Int32} {S T : tS} {g : Nat → va_E} (hN : sN T = sN S) (hP : sP T = sP S) : gM cy ad th ra le T g = gM cy ad th ra le (sN S, sP S, sH T, sQ T, sF T, sM T) g := by
  rw [← hN, ← hP]
theorem m_back (l : Launch) {z0 n : Nat} {D : va_G} {cy : Nat → ClassId} {ad : Nat → Nat} {th : Int32} {ra le : Nat → Int32} {S T : tS} {g : Nat → va_E} (hn : 61 ≤ n) (ho : ok S) (hN : sN T = sN S) (hP : sP T = sP S) (hk : kpS S T) : CtG l yX5_bringBack cX5_bringBack 4 none { frames := 1, cells := 1, slots := 4, locals := 40 } z0 D cy (n + 5) ad (gM cy ad th ra le T (kB cy ad n 4 S g)) [.ref (ad 54), .ref (ad n)] (isR none (n + 5) ad (gM cy ad th ra le S (kB cy ad n 4 S g))) 1 4 := by
  rw [gM_T hN hP]
  exact m_bring l hn (Nat.le_refl _) ho.1 ho.2.1 hk.2 hk.1 ⟨by omega, kB_b⟩ (fun x hx => ⟨by omega, kB_hi⟩)
theorem fin_cut {cy : Nat → ClassId} {ad ad' : Nat → Nat} {n i : Nat} {th : Int32} {ra le : Nat → Int32} {S : tS} {g : Nat → va_E} (hn : 61 ≤ n) (ha : ∀ j, j < n → ad' j = ad j) : ∀ j, j < n → gM cy ad th ra le S g j = gM cy ad' th ra le S (kB cy ad' n i S g) j := by
  intro j hj
  rw [← kB_gM hn, kB_lo hj, gM_ad (fun j hj => ha j (by omega))]
theorem jmin_comm (a b : Int32) : jmin a b = jmin b a := by
  apply Int32.toInt_inj.mp
  rw [jminI, jminI]
  omega
set_option maxRecDepth 100000 in
set_option maxHeartbeats 4000000 in
theorem m_foresee (l : Launch) {z0 n : Nat} {D : va_G} {cy : Nat → ClassId} {ad : Nat → Nat} {d k j : Nat} {th : Int32} {ra le : Nat → Int32} {S : tS} {g : Nat → va_E} (hn : 61 ≤ n) (ho : ok S) (hwk : wok ra le) (hd : sM S 0 = nI d) (hd2 : d + k < 2 ^ 31) (h1 : IN (nI k) 1 100) (hj : j < 3) (h2 : IN (nI j) 0 2) : CtG l yX5_foresee cX5_foresee 7 (some FieldType.int) { frames := 4, cells := 6, slots := 273, locals := 115 } z0 D cy n ad (gM cy ad th ra le S g) [.ref (ad 54), .int (nI k), .int (nI j)] (isR (some (.int (foreA ra le k S j))) n ad (gM cy ad 0 ra le S g)) 6 273 := by
  refine ct_of (by decide +kernel) 4 [some (.ref (ad 54)), some (.int (nI k)), some (.int (nI j)), none, none, none, none] (Nat.le_of_ble_eq_true rfl) rfl ?_
  intro p e s m below meth c X hr hlk hnm
  generalize ([.ref (ad 54), .int (nI k), .int (nI j)] : List Value).toArray = A at X ⊢
  generalize hQ : MQ below (QcR z0 D (isR (some (.int (foreA ra le k S j))) n ad (gM cy ad 0 ra le S g))) A s 6 273 (fun q => z0 ≤ q) = Q
  obtain ⟨o1, o2, o3, o4⟩ := daysS_ok hwk ho hd k
  have hk1 := kp_days hwk ho k
  refine v_aload0 X dX5_foresee_0 rfl ?_
  refine v_ico (v := 0) X dX5_foresee_1 (by decide) ?_
  refine pf_X5_28 X dX5_foresee_2 (gM_t hn) ?_
  refine vV.gg (gM_upT) ?_
  refine v_iload1 X dX5_foresee_5 rfl ?_
  refine v_ico (v := 1) X dX5_foresee_6 (by decide) ?_
  refine v_bip (v := 100) X dX5_foresee_7 (by decide) ?_
  refine cd_X5_35 X dX5_foresee_9 (m_isIn l) (Nat.le_of_ble_eq_true rfl) ⟨(Nat.le_of_ble_eq_true rfl), (Nat.le_of_ble_eq_true rfl), (Nat.le_of_ble_eq_true rfl), (Nat.le_of_ble_eq_true rfl)⟩ ?_
  refine v_if_ne (tgt := 21) X dX5_foresee_12 (by decide) (fun hb => ?_) (fun hb => ?_)
  rotate_left
  · exact absurd hb (inB_ne h1)
  refine v_iload2 X dX5_foresee_21 rfl ?_
  refine v_ico (v := 0) X dX5_foresee_22 (by decide) ?_
  refine v_ico (v := 2) X dX5_foresee_23 (by decide) ?_
  refine cd_X5_35 X dX5_foresee_24 (m_isIn l) (Nat.le_of_ble_eq_true rfl) ⟨(Nat.le_of_ble_eq_true rfl), (Nat.le_of_ble_eq_true rfl), (Nat.le_of_ble_eq_true rfl), (Nat.le_of_ble_eq_true rfl)⟩ ?_
  refine v_if_ne (tgt := 36) X dX5_foresee_27 (by decide) (fun hb => ?_) (fun hb => ?_)
  rotate_left
  · exact absurd hb (inB_ne h2)
  refine v_aload0 X dX5_foresee_36 rfl ?_
  refine cl_X5_106 X dX5_foresee_37 (m_kept l hn) (gM_t hn) rfl (Nat.le_of_ble_eq_true rfl) ⟨rfl, rfl, Nat.le_of_ble_eq_true rfl, Nat.le_of_ble_eq_true rfl, Nat.le_of_ble_eq_true rfl, Nat.le_of_ble_eq_true rfl⟩ ?_
  rintro r1 n1 ad1 g1 ⟨rfl, rfl, a1, rfl⟩
  have hn1 : 61 ≤ n + 5 := by omega
  rw [← a1 54 (by omega)]
  refine v_astore3 X rfl (Nat.le_of_ble_eq_true rfl) dX5_foresee_40 ?_
  refine v_aload0 X dX5_foresee_41 rfl ?_
  refine gf_X5_25 X dX5_foresee_42 (gM_t hn1) ?_
  refine v_ico (v := 2) X dX5_foresee_45 (by decide) ?_
  refine v_iald X dX5_foresee_46 (gM_m hn1) rfl (by decide) (by decide) ?_
  refine v_istore4 X rfl (Nat.le_of_ble_eq_true rfl) dX5_foresee_47 ?_
  refine v_aload0 X dX5_foresee_49 rfl ?_
  refine v_iload1 X dX5_foresee_50 rfl ?_
  refine cd_X5_92 X dX5_foresee_51 (m_daysOn l hn1 ho hwk hd hd2) (gM_t hn1) rfl (Nat.le_of_ble_eq_true rfl) ⟨(Nat.le_of_ble_eq_true rfl), (Nat.le_of_ble_eq_true rfl), (Nat.le_of_ble_eq_true rfl), (Nat.le_of_ble_eq_true rfl)⟩ ?_
  refine vV.top (congrArg Value.int (thDs_eq hwk ho hd k)) ?_
  have hZ : ∀ v, v = foreA ra le k S j → vV p l e { frames := 4, cells := 6, slots := 273, locals := 115 } s m A below meth c 7 z0 D 5 269 Q (n + 5) ad1 (gM cy ad1 0 ra le (daysS ra le k S) (kB cy ad1 n 4 S g)) 87 [some (.ref (ad1 54)), some (.int (nI k)), some (.int (nI j)), some (.ref (ad1 n)), none, none, none] [.int v] := by
    intro v hv
    subst hv
    refine v_istore6 X rfl (Nat.le_of_ble_eq_true rfl) dX5_foresee_87 ?_
    refine v_aload0 X dX5_foresee_89 rfl ?_
    refine v_aload3 X dX5_foresee_90 rfl ?_
    refine cl_X5_110 X dX5_foresee_91 (m_back l hn ho o2 o3 hk1) (gM_t hn1) rfl (Nat.le_of_ble_eq_true rfl) ⟨rfl, rfl, Nat.le_of_ble_eq_true rfl, Nat.le_of_ble_eq_true rfl, Nat.le_of_ble_eq_true rfl, Nat.le_of_ble_eq_true rfl⟩ ?_
    rintro _ _ _ _ ⟨rfl, rfl, rfl, rfl⟩
    refine vV.cut (n' := n) (ad' := ad) (g' := gM cy ad 0 ra le S g) (by omega) (fun j hj => (a1 j hj).symm) (fin_cut hn a1) ?_
    refine v_iload X dX5_foresee_94 rfl ?_
    rw [← hQ]
    exact v_iret X hr hlk dX5_foresee_96 ⟨rfl, rfl, rfl, rfl⟩
  match j, hj, hZ with
  | 0, _, hZ =>
    refine v_istore5 X rfl (Nat.le_of_ble_eq_true rfl) dX5_foresee_54 ?_
    refine v_iload2 X dX5_foresee_56 rfl ?_
    refine v_if_ne (tgt := 65) X dX5_foresee_57 (by decide) (fun hc => ?_) (fun hc => ?_)
    · exact absurd rfl hc
    refine v_iload X dX5_foresee_60 rfl ?_
    refine v_goto (tgt := 87) X dX5_foresee_62 (by decide) ?_
    exact vV.le (A := [some (.ref (ad1 54)), some (.int (nI k)), some (.int (nI 0)), some (.ref (ad1 n)), none, none, none]) ⟨rfl, rfl, rfl, rfl, trivial⟩ (hZ _ rfl)
  | 1, _, hZ =>
    refine v_istore5 X rfl (Nat.le_of_ble_eq_true rfl) dX5_foresee_54 ?_
    refine v_iload2 X dX5_foresee_56 rfl ?_
    refine v_if_ne (tgt := 65) X dX5_foresee_57 (by decide) (fun hc => ?_) (fun hc => ?_)
    rotate_left
    · exact absurd hc (by decide)
    refine v_iload2 X dX5_foresee_65 rfl ?_
    refine v_ico (v := 1) X dX5_foresee_66 (by decide) ?_
    refine v_icmp_ne (tgt := 78) X dX5_foresee_67 (by decide) (fun hc2 => ?_) (fun hc2 => ?_)
    · exact absurd rfl hc2
    refine v_aload0 X dX5_foresee_70 rfl ?_
    refine v_ico (v := 2) X dX5_foresee_71 (by decide) ?_
    refine cd_X5_95 X dX5_foresee_72 (m_all l (w := 2) hn1 o1.1 (by decide)) (gM_t hn1) rfl (Nat.le_of_ble_eq_true rfl) ⟨(Nat.le_of_ble_eq_true rfl), (Nat.le_of_ble_eq_true rfl), (Nat.le_of_ble_eq_true rfl), (Nat.le_of_ble_eq_true rfl)⟩ ?_
    refine v_goto (tgt := 87) X dX5_foresee_75 (by decide) ?_
    exact vV.le (A := [some (.ref (ad1 54)), some (.int (nI k)), some (.int (nI 1)), some (.ref (ad1 n)), none, none, none]) ⟨rfl, rfl, rfl, rfl, trivial⟩ (hZ _ rfl)
  | 2, _, hZ =>
    refine v_istore5 X rfl (Nat.le_of_ble_eq_true rfl) dX5_foresee_54 ?_
    refine v_iload2 X dX5_foresee_56 rfl ?_
    refine v_if_ne (tgt := 65) X dX5_foresee_57 (by decide) (fun hc => ?_) (fun hc => ?_)
    rotate_left
    · exact absurd hc (by decide)
    refine v_iload2 X dX5_foresee_65 rfl ?_
    refine v_ico (v := 1) X dX5_foresee_66 (by decide) ?_
    refine v_icmp_ne (tgt := 78) X dX5_foresee_67 (by decide) (fun hc2 => ?_) (fun hc2 => ?_)
    rotate_left
    · exact absurd hc2 (by decide)
    refine v_aload0 X dX5_foresee_78 rfl ?_
    refine gf_X5_25 X dX5_foresee_79 (gM_t hn1) ?_
    refine v_ico (v := 2) X dX5_foresee_82 (by decide) ?_
    refine v_iald X dX5_foresee_83 (gM_m hn1) rfl (by decide) (by decide) ?_
    refine v_iload X dX5_foresee_84 rfl ?_
    refine v_isub X dX5_foresee_86 ?_
    exact vV.le (A := [some (.ref (ad1 54)), some (.int (nI k)), some (.int (nI 2)), some (.ref (ad1 n)), none, none, none]) ⟨rfl, rfl, rfl, rfl, trivial⟩ (hZ _ rfl)
  | j + 3, h, _ => exact absurd h (by omega)
set_option maxRecDepth 100000 in
set_option maxHeartbeats 4000000 in
theorem mx1_foresee (l : Launch) {z0 n : Nat} {D : va_G} {cy : Nat → ClassId} {ad : Nat → Nat} {x y : Int32} {th : Int32} {ra le : Nat → Int32} {S : tS} {g : Nat → va_E} (hn : 61 ≤ n) (h1 : ¬ IN x 1 100) : Ct0 l yX5_foresee cX5_foresee 7 (some FieldType.int) 4 115 z0 D cy n ad (gM cy ad th ra le S g) [.ref (ad 54), .int x, .int y] (some (.int 0)) (gM cy ad 1 ra le S g) := by
  refine ct_of (by decide +kernel) 4 [some (.ref (ad 54)), some (.int x), some (.int y), none, none, none, none] (Nat.le_of_ble_eq_true rfl) rfl ?_
  intro p e s m below meth c X hr hlk hnm
  refine v_aload0 X dX5_foresee_0 rfl ?_
  refine v_ico (v := 0) X dX5_foresee_1 (by decide) ?_
  refine pf_X5_28 X dX5_foresee_2 (gM_t hn) ?_
  refine vV.gg (gM_upT) ?_
  refine v_iload1 X dX5_foresee_5 rfl ?_
  refine v_ico (v := 1) X dX5_foresee_6 (by decide) ?_
  refine v_bip (v := 100) X dX5_foresee_7 (by decide) ?_
  refine cd_X5_35 X dX5_foresee_9 (m_isIn l) (Nat.le_of_ble_eq_true rfl) ⟨(Nat.le_of_ble_eq_true rfl), (Nat.le_of_ble_eq_true rfl), (Nat.le_of_ble_eq_true rfl), (Nat.le_of_ble_eq_true rfl)⟩ ?_
  rw [inB_0 h1]
  refine v_if_ne (tgt := 21) X dX5_foresee_12 (by decide) (fun hb => ?_) (fun hb => ?_)
  · exact absurd rfl hb
  refine v_aload0 X dX5_foresee_15 rfl ?_
  refine v_ico (v := 1) X dX5_foresee_16 (by decide) ?_
  refine cd_X5_42 X dX5_foresee_17 (m_fail l hn) (gM_t hn) rfl (Nat.le_of_ble_eq_true rfl) ⟨(Nat.le_of_ble_eq_true rfl), (Nat.le_of_ble_eq_true rfl), (Nat.le_of_ble_eq_true rfl), (Nat.le_of_ble_eq_true rfl)⟩ ?_
  exact v_iret X hr hlk dX5_foresee_20 ⟨rfl, rfl, rfl, rfl⟩
set_option maxRecDepth 100000 in
set_option maxHeartbeats 4000000 in
theorem mx1_dirty (l : Launch) {z0 n : Nat} {D : va_G} {cy : Nat → ClassId} {ad : Nat → Nat} {x : Int32} {th : Int32} {ra le : Nat → Int32} {S : tS} {g : Nat → va_E} (hn : 61 ≤ n) (h1 : ¬ IN x 1 60) : Ct0 l yX5_dirty cX5_dirty 7 (some FieldType.int) 4 115 z0 D cy n ad (gM cy ad th ra le S g) [.ref (ad 54), .int x] (some (.int 0)) (gM cy ad 1 ra le S g) := by
  refine ct_of (by decide +kernel) 5 [some (.ref (ad 54)), some (.int x), none, none, none, none, none] (Nat.le_of_ble_eq_true rfl) rfl ?_
  intro p e s m below meth c X hr hlk hnm
  refine v_aload0 X dX5_dirty_0 rfl ?_
  refine v_ico (v := 0) X dX5_dirty_1 (by decide) ?_
  refine pf_X5_28 X dX5_dirty_2 (gM_t hn) ?_
  refine vV.gg (gM_upT) ?_
  refine v_iload1 X dX5_dirty_5 rfl ?_
  refine v_ico (v := 1) X dX5_dirty_6 (by decide) ?_
  refine v_bip (v := 60) X dX5_dirty_7 (by decide) ?_
  refine cd_X5_35 X dX5_dirty_9 (m_isIn l) (Nat.le_of_ble_eq_true rfl) ⟨(Nat.le_of_ble_eq_true rfl), (Nat.le_of_ble_eq_true rfl), (Nat.le_of_ble_eq_true rfl), (Nat.le_of_ble_eq_true rfl)⟩ ?_
  rw [inB_0 h1]
  refine v_if_ne (tgt := 21) X dX5_dirty_12 (by decide) (fun hb => ?_) (fun hb => ?_)
  · exact absurd rfl hb
  refine v_aload0 X dX5_dirty_15 rfl ?_
  refine v_ico (v := 1) X dX5_dirty_16 (by decide) ?_
  refine cd_X5_42 X dX5_dirty_17 (m_fail l hn) (gM_t hn) rfl (Nat.le_of_ble_eq_true rfl) ⟨(Nat.le_of_ble_eq_true rfl), (Nat.le_of_ble_eq_true rfl), (Nat.le_of_ble_eq_true rfl), (Nat.le_of_ble_eq_true rfl)⟩ ?_
  exact v_iret X hr hlk dX5_dirty_20 ⟨rfl, rfl, rfl, rfl⟩
set_option maxRecDepth 100000 in
set_option maxHeartbeats 4000000 in
theorem mx1_advise (l : Launch) {z0 n : Nat} {D : va_G} {cy : Nat → ClassId} {ad : Nat → Nat} {x : Int32} {th : Int32} {ra le : Nat → Int32} {S : tS} {g : Nat → va_E} (hn : 61 ≤ n) (h1 : ¬ IN x 1 60) : Ct0 l yX5_advise cX5_advise 7 (some FieldType.int) 4 115 z0 D cy n ad (gM cy ad th ra le S g) [.ref (ad 54), .int x] (some (.int 0)) (gM cy ad 1 ra le S g) := by
  refine ct_of (by decide +kernel) 5 [some (.ref (ad 54)), some (.int x), none, none, none, none, none] (Nat.le_of_ble_eq_true rfl) rfl ?_
  intro p e s m below meth c X hr hlk hnm
  refine v_aload0 X dX5_advise_0 rfl ?_
  refine v_ico (v := 0) X dX5_advise_1 (by decide) ?_
  refine pf_X5_28 X dX5_advise_2 (gM_t hn) ?_
  refine vV.gg (gM_upT) ?_
  refine v_iload1 X dX5_advise_5 rfl ?_
  refine v_ico (v := 1) X dX5_advise_6 (by decide) ?_
  refine v_bip (v := 60) X dX5_advise_7 (by decide) ?_
  refine cd_X5_35 X dX5_advise_9 (m_isIn l) (Nat.le_of_ble_eq_true rfl) ⟨(Nat.le_of_ble_eq_true rfl), (Nat.le_of_ble_eq_true rfl), (Nat.le_of_ble_eq_true rfl), (Nat.le_of_ble_eq_true rfl)⟩ ?_
  rw [inB_0 h1]
  refine v_if_ne (tgt := 21) X dX5_advise_12 (by decide) (fun hb => ?_) (fun hb => ?_)
  · exact absurd rfl hb
  refine v_aload0 X dX5_advise_15 rfl ?_
  refine v_ico (v := 1) X dX5_advise_16 (by decide) ?_
  refine cd_X5_42 X dX5_advise_17 (m_fail l hn) (gM_t hn) rfl (Nat.le_of_ble_eq_true rfl) ⟨(Nat.le_of_ble_eq_true rfl), (Nat.le_of_ble_eq_true rfl), (Nat.le_of_ble_eq_true rfl), (Nat.le_of_ble_eq_true rfl)⟩ ?_
  exact v_iret X hr hlk dX5_advise_20 ⟨rfl, rfl, rfl, rfl⟩
set_option maxRecDepth 100000 in
set_option maxHeartbeats 4000000 in
theorem mx2_foresee (l : Launch) {z0 n : Nat} {D : va_G} {cy : Nat → ClassId} {ad : Nat → Nat} {x y : Int32} {th : Int32} {ra le : Nat → Int32} {S : tS} {g : Nat → va_E} (hn : 61 ≤ n) (h1 : IN x 1 100) (h2 : ¬ IN y 0 2) : Ct0 l yX5_foresee cX5_foresee 7 (some FieldType.int) 4 115 z0 D cy n ad (gM cy ad th ra le S g) [.ref (ad 54), .int x, .int y] (some (.int 0)) (gM cy ad 2 ra le S g) := by
  refine ct_of (by decide +kernel) 4 [some (.ref (ad 54)), some (.int x), some (.int y), none, none, none, none] (Nat.le_of_ble_eq_true rfl) rfl ?_
  intro p e s m below meth c X hr hlk hnm
  refine v_aload0 X dX5_foresee_0 rfl ?_
  refine v_ico (v := 0) X dX5_foresee_1 (by decide) ?_
  refine pf_X5_28 X dX5_foresee_2 (gM_t hn) ?_
  refine vV.gg (gM_upT) ?_
  refine v_iload1 X dX5_foresee_5 rfl ?_
  refine v_ico (v := 1) X dX5_foresee_6 (by decide) ?_
  refine v_bip (v := 100) X dX5_foresee_7 (by decide) ?_
  refine cd_X5_35 X dX5_foresee_9 (m_isIn l) (Nat.le_of_ble_eq_true rfl) ⟨(Nat.le_of_ble_eq_true rfl), (Nat.le_of_ble_eq_true rfl), (Nat.le_of_ble_eq_true rfl), (Nat.le_of_ble_eq_true rfl)⟩ ?_
  refine v_if_ne (tgt := 21) X dX5_foresee_12 (by decide) (fun hb => ?_) (fun hb => ?_)
  rotate_left
  · exact absurd hb (inB_ne h1)
  refine v_iload2 X dX5_foresee_21 rfl ?_
  refine v_ico (v := 0) X dX5_foresee_22 (by decide) ?_
  refine v_ico (v := 2) X dX5_foresee_23 (by decide) ?_
  refine cd_X5_35 X dX5_foresee_24 (m_isIn l) (Nat.le_of_ble_eq_true rfl) ⟨(Nat.le_of_ble_eq_true rfl), (Nat.le_of_ble_eq_true rfl), (Nat.le_of_ble_eq_true rfl), (Nat.le_of_ble_eq_true rfl)⟩ ?_
  rw [inB_0 h2]
  refine v_if_ne (tgt := 36) X dX5_foresee_27 (by decide) (fun hc => ?_) (fun hc => ?_)
  · exact absurd rfl hc
  refine v_aload0 X dX5_foresee_30 rfl ?_
  refine v_ico (v := 2) X dX5_foresee_31 (by decide) ?_
  refine cd_X5_42 X dX5_foresee_32 (m_fail l hn) (gM_t hn) rfl (Nat.le_of_ble_eq_true rfl) ⟨(Nat.le_of_ble_eq_true rfl), (Nat.le_of_ble_eq_true rfl), (Nat.le_of_ble_eq_true rfl), (Nat.le_of_ble_eq_true rfl)⟩ ?_
  exact v_iret X hr hlk dX5_foresee_35 ⟨rfl, rfl, rfl, rfl⟩
set_option maxRecDepth 100000 in
set_option maxHeartbeats 4000000 in
theorem mx1_lasts (l : Launch) {z0 n : Nat} {D : va_G} {cy : Nat → ClassId} {ad : Nat → Nat} {x : Int32} {th : Int32} {ra le : Nat → Int32} {S : tS} {g : Nat → va_E} (hn : 61 ≤ n) (ho : ok S) (h1 : hasB (sN S) x = 0) : Ct0 l yX5_lasts cX5_lasts 5 (some FieldType.int) 3 92 z0 D cy n ad (gM cy ad th ra le S g) [.ref (ad 54), .int x] (some (.int 0)) (gM cy ad 1 ra le S g) := by
  refine ct_of (by decide +kernel) 3 [some (.ref (ad 54)), some (.int x), none, none, none] (Nat.le_of_ble_eq_true rfl) rfl ?_
  intro p e s m below meth c X hr hlk hnm
  refine v_aload0 X dX5_lasts_0 rfl ?_
  refine v_ico (v := 0) X dX5_lasts_1 (by decide) ?_
  refine pf_X5_28 X dX5_lasts_2 (gM_t hn) ?_
  refine vV.gg (gM_upT) ?_
  refine v_aload0 X dX5_lasts_5 rfl ?_
  refine v_iload1 X dX5_lasts_6 rfl ?_
  refine cd_X5_52 X dX5_lasts_7 (m_isHouse l hn ho.1) (gM_t hn) rfl (Nat.le_of_ble_eq_true rfl) ⟨(Nat.le_of_ble_eq_true rfl), (Nat.le_of_ble_eq_true rfl), (Nat.le_of_ble_eq_true rfl), (Nat.le_of_ble_eq_true rfl)⟩ ?_
  rw [h1]
  refine v_if_ne (tgt := 19) X dX5_lasts_10 (by decide) (fun hb => ?_) (fun hb => ?_)
  · exact absurd rfl hb
  refine v_aload0 X dX5_lasts_13 rfl ?_
  refine v_ico (v := 1) X dX5_lasts_14 (by decide) ?_
  refine cd_X5_42 X dX5_lasts_15 (m_fail l hn) (gM_t hn) rfl (Nat.le_of_ble_eq_true rfl) ⟨(Nat.le_of_ble_eq_true rfl), (Nat.le_of_ble_eq_true rfl), (Nat.le_of_ble_eq_true rfl), (Nat.le_of_ble_eq_true rfl)⟩ ?_
  exact v_iret X hr hlk dX5_lasts_18 ⟨rfl, rfl, rfl, rfl⟩
set_option maxRecDepth 100000 in
set_option maxHeartbeats 4000000 in
theorem mx1_needs (l : Launch) {z0 n : Nat} {D : va_G} {cy : Nat → ClassId} {ad : Nat → Nat} {x y : Int32} {th : Int32} {ra le : Nat → Int32} {S : tS} {g : Nat → va_E} (hn : 61 ≤ n) (ho : ok S) (h1 : hasB (sN S) x = 0) : Ct0 l yX5_needs cX5_needs 7 (some FieldType.int) 4 115 z0 D cy n ad (gM cy ad th ra le S g) [.ref (ad 54), .int x, .int y] (some (.int 0)) (gM cy ad 1 ra le S g) := by
  refine ct_of (by decide +kernel) 4 [some (.ref (ad 54)), some (.int x), some (.int y), none, none, none, none] (Nat.le_of_ble_eq_true rfl) rfl ?_
  intro p e s m below meth c X hr hlk hnm
  refine v_aload0 X dX5_needs_0 rfl ?_
  refine v_ico (v := 0) X dX5_needs_1 (by decide) ?_
  refine pf_X5_28 X dX5_needs_2 (gM_t hn) ?_
  refine vV.gg (gM_upT) ?_
  refine v_aload0 X dX5_needs_5 rfl ?_
  refine v_iload1 X dX5_needs_6 rfl ?_
  refine cd_X5_52 X dX5_needs_7 (m_isHouse l hn ho.1) (gM_t hn) rfl (Nat.le_of_ble_eq_true rfl) ⟨(Nat.le_of_ble_eq_true rfl), (Nat.le_of_ble_eq_true rfl), (Nat.le_of_ble_eq_true rfl), (Nat.le_of_ble_eq_true rfl)⟩ ?_
  rw [h1]
  refine v_if_ne (tgt := 19) X dX5_needs_10 (by decide) (fun hb => ?_) (fun hb => ?_)
  · exact absurd rfl hb
  refine v_aload0 X dX5_needs_13 rfl ?_
  refine v_ico (v := 1) X dX5_needs_14 (by decide) ?_
  refine cd_X5_42 X dX5_needs_15 (m_fail l hn) (gM_t hn) rfl (Nat.le_of_ble_eq_true rfl) ⟨(Nat.le_of_ble_eq_true rfl), (Nat.le_of_ble_eq_true rfl), (Nat.le_of_ble_eq_true rfl), (Nat.le_of_ble_eq_true rfl)⟩ ?_
  exact v_iret X hr hlk dX5_needs_18 ⟨rfl, rfl, rfl, rfl⟩
set_option maxRecDepth 100000 in
set_option maxHeartbeats 4000000 in
theorem mx2_needs (l : Launch) {z0 n : Nat} {D : va_G} {cy : Nat → ClassId} {ad : Nat → Nat} {x y : Int32} {th : Int32} {ra le : Nat → Int32} {S : tS} {g : Nat → va_E} (hn : 61 ≤ n) (ho : ok S) (h1 : hasB (sN S) x = 1) (h2 : ¬ IN y 1 60) : Ct0 l yX5_needs cX5_needs 7 (some FieldType.int) 4 115 z0 D cy n ad (gM cy ad th ra le S g) [.ref (ad 54), .int x, .int y] (some (.int 0)) (gM cy ad 2 ra le S g) := by
  refine ct_of (by decide +kernel) 4 [some (.ref (ad 54)), some (.int x), some (.int y), none, none, none, none] (Nat.le_of_ble_eq_true rfl) rfl ?_
  intro p e s m below meth c X hr hlk hnm
  refine v_aload0 X dX5_needs_0 rfl ?_
  refine v_ico (v := 0) X dX5_needs_1 (by decide) ?_
  refine pf_X5_28 X dX5_needs_2 (gM_t hn) ?_
  refine vV.gg (gM_upT) ?_
  refine v_aload0 X dX5_needs_5 rfl ?_
  refine v_iload1 X dX5_needs_6 rfl ?_
  refine cd_X5_52 X dX5_needs_7 (m_isHouse l hn ho.1) (gM_t hn) rfl (Nat.le_of_ble_eq_true rfl) ⟨(Nat.le_of_ble_eq_true rfl), (Nat.le_of_ble_eq_true rfl), (Nat.le_of_ble_eq_true rfl), (Nat.le_of_ble_eq_true rfl)⟩ ?_
  rw [h1]
  refine v_if_ne (tgt := 19) X dX5_needs_10 (by decide) (fun hb => ?_) (fun hb => ?_)
  rotate_left
  · exact absurd hb (by decide)
  refine v_iload2 X dX5_needs_19 rfl ?_
  refine v_ico (v := 1) X dX5_needs_20 (by decide) ?_
  refine v_bip (v := 60) X dX5_needs_21 (by decide) ?_
  refine cd_X5_35 X dX5_needs_23 (m_isIn l) (Nat.le_of_ble_eq_true rfl) ⟨(Nat.le_of_ble_eq_true rfl), (Nat.le_of_ble_eq_true rfl), (Nat.le_of_ble_eq_true rfl), (Nat.le_of_ble_eq_true rfl)⟩ ?_
  rw [inB_0 h2]
  refine v_if_ne (tgt := 35) X dX5_needs_26 (by decide) (fun hc => ?_) (fun hc => ?_)
  · exact absurd rfl hc
  refine v_aload0 X dX5_needs_29 rfl ?_
  refine v_ico (v := 2) X dX5_needs_30 (by decide) ?_
  refine cd_X5_42 X dX5_needs_31 (m_fail l hn) (gM_t hn) rfl (Nat.le_of_ble_eq_true rfl) ⟨(Nat.le_of_ble_eq_true rfl), (Nat.le_of_ble_eq_true rfl), (Nat.le_of_ble_eq_true rfl), (Nat.le_of_ble_eq_true rfl)⟩ ?_
  exact v_iret X hr hlk dX5_needs_34 ⟨rfl, rfl, rfl, rfl⟩
set_option maxRecDepth 100000 in
set_option maxHeartbeats 4000000 in
theorem m_lasts (l : Launch) {z0 n : Nat} {D : va_G} {cy : Nat → ClassId} {ad : Nat → Nat} {d h : Nat} {th : Int32} {ra le : Nat → Int32} {S : tS} {g : Nat → va_E} (hn : 61 ≤ n) (ho : ok S) (hh : h < sN S) (hwk : wok ra le) (hd : sM S 0 = nI d) (hd2 : d + 200 < 2 ^ 30) : CtG l yX5_lasts cX5_lasts 5 (some FieldType.int) { frames := 3, cells := 6, slots := 273, locals := 92 } z0 D cy n ad (gM cy ad th ra le S g) [.ref (ad 54), .int (nI h)] (isR (some (.int (dtt ra le h (sH S h 9) 200 1 S).1)) n ad (gM cy ad 0 ra le S g)) 6 273 := by
  refine ct_of (by decide +kernel) 3 [some (.ref (ad 54)), some (.int (nI h)), none, none, none] (Nat.le_of_ble_eq_true rfl) rfl ?_
  intro p e s m below meth c X hr hlk hnm
  generalize ([.ref (ad 54), .int (nI h)] : List Value).toArray = A at X ⊢
  have hN := ho.1
  generalize hR : (dtt ra le h (sH S h 9) 200 1 S).1 = R
  generalize hQ : MQ below (QcR z0 D (isR (some (.int R)) n ad (gM cy ad 0 ra le S g))) A s 6 273 (fun q => z0 ≤ q) = Q
  refine v_aload0 X dX5_lasts_0 rfl ?_
  refine v_ico (v := 0) X dX5_lasts_1 (by decide) ?_
  refine pf_X5_28 X dX5_lasts_2 (gM_t hn) ?_
  refine vV.gg (gM_upT) ?_
  refine v_aload0 X dX5_lasts_5 rfl ?_
  refine v_iload1 X dX5_lasts_6 rfl ?_
  refine cd_X5_52 X dX5_lasts_7 (m_isHouse l hn hN) (gM_t hn) rfl (Nat.le_of_ble_eq_true rfl) ⟨(Nat.le_of_ble_eq_true rfl), (Nat.le_of_ble_eq_true rfl), (Nat.le_of_ble_eq_true rfl), (Nat.le_of_ble_eq_true rfl)⟩ ?_
  rw [hasB_1 hh (by omega)]
  refine v_if_ne (tgt := 19) X dX5_lasts_10 (by decide) (fun hb => ?_) (fun hb => ?_)
  rotate_left
  · exact absurd hb (by decide)
  refine v_aload0 X dX5_lasts_19 rfl ?_
  refine cl_X5_106 X dX5_lasts_20 (m_kept l hn) (gM_t hn) rfl (Nat.le_of_ble_eq_true rfl) ⟨rfl, rfl, Nat.le_of_ble_eq_true rfl, Nat.le_of_ble_eq_true rfl, Nat.le_of_ble_eq_true rfl, Nat.le_of_ble_eq_true rfl⟩ ?_
  rintro r1 n1 ad1 g1 ⟨rfl, rfl, a1, rfl⟩
  have hn1 : 61 ≤ n + 5 := by omega
  rw [← a1 54 (by omega)]
  have hZ : ∀ T, (ok T ∧ sN T = sN S ∧ sP T = sP S) → kpS S T → vV p l e { frames := 3, cells := 6, slots := 273, locals := 92 } s m A below meth c 5 z0 D 5 269 Q (n + 5) ad1 (gM cy ad1 0 ra le T (kB cy ad1 n 4 S g)) 79 [some (.ref (ad1 54)), some (.int (nI h)), some (.ref (ad1 n)), some (.int (sH S h 7)), some (.int R)] [] := by
    intro T hT hkp
    refine v_aload0 X dX5_lasts_79 rfl ?_
    refine v_aload2 X dX5_lasts_80 rfl ?_
    refine cl_X5_110 X dX5_lasts_81 (m_back l hn ho hT.2.1 hT.2.2 hkp) (gM_t hn1) rfl (Nat.le_of_ble_eq_true rfl) ⟨rfl, rfl, Nat.le_of_ble_eq_true rfl, Nat.le_of_ble_eq_true rfl, Nat.le_of_ble_eq_true rfl, Nat.le_of_ble_eq_true rfl⟩ ?_
    rintro _ _ _ _ ⟨rfl, rfl, rfl, rfl⟩
    refine vV.cut (n' := n) (ad' := ad) (g' := gM cy ad 0 ra le S g) (by omega) (fun j hj => (a1 j hj).symm) (fin_cut hn a1) ?_
    refine v_iload X dX5_lasts_84 rfl ?_
    rw [← hQ]
    exact v_iret X hr hlk dX5_lasts_86 ⟨rfl, rfl, rfl, rfl⟩
  have hY : ∀ T i, (ok T ∧ sN T = sN S ∧ sP T = sP S) → kpS S T → ¬ sH T h 7 = sH S h 7 → R = nI i → i ≤ 200 → vV p l e { frames := 3, cells := 6, slots := 273, locals := 92 } s m A below meth c 5 z0 D 5 269 Q (n + 5) ad1 (gM cy ad1 0 ra le T (kB cy ad1 n 4 S g)) 35 [some (.ref (ad1 54)), some (.int (nI h)), some (.ref (ad1 n)), some (.int (sH S h 7)), some (.int (nI i))] [] := by
    intro T i hT hkp hne hRi hi
    have hTh : h < sN T := by rw [hT.2.1]; exact hh
    subst hRi
    have hW : vV p l e { frames := 3, cells := 6, slots := 273, locals := 92 } s m A below meth c 5 z0 D 5 269 Q (n + 5) ad1 (gM cy ad1 0 ra le T (kB cy ad1 n 4 S g)) 65 [some (.ref (ad1 54)), some (.int (nI h)), some (.ref (ad1 n)), some (.int (sH S h 7)), some (.int (nI i))] [] := by
      refine v_aload0 X dX5_lasts_65 rfl ?_
      refine v_iload1 X dX5_lasts_66 rfl ?_
      refine v_bip (v := 7) X dX5_lasts_67 (by decide) ?_
      refine cd_X5_56 X dX5_lasts_69 (m_ho l (w := 7) hn1 hT.1.1 hTh (by decide)) (gM_t hn1) rfl (Nat.le_of_ble_eq_true rfl) ⟨(Nat.le_of_ble_eq_true rfl), (Nat.le_of_ble_eq_true rfl), (Nat.le_of_ble_eq_true rfl), (Nat.le_of_ble_eq_true rfl)⟩ ?_
      refine v_iload3 X dX5_lasts_72 rfl ?_
      refine v_icmp_ne (tgt := 79) X dX5_lasts_73 (by decide) (fun hc => ?_) (fun hc => ?_)
      · exact hZ T hT hkp
      exact absurd hc hne
    refine v_iload X dX5_lasts_35 rfl ?_
    refine v_sip (v := 200) X dX5_lasts_37 (by decide) ?_
    refine v_icmp_ge (tgt := 65) X dX5_lasts_40 (by decide) (fun hc => ?_) (fun hc => ?_)
    · exact hW
    refine v_aload0 X dX5_lasts_43 rfl ?_
    refine v_iload1 X dX5_lasts_44 rfl ?_
    refine v_bip (v := 7) X dX5_lasts_45 (by decide) ?_
    refine cd_X5_56 X dX5_lasts_47 (m_ho l (w := 7) hn1 hT.1.1 hTh (by decide)) (gM_t hn1) rfl (Nat.le_of_ble_eq_true rfl) ⟨(Nat.le_of_ble_eq_true rfl), (Nat.le_of_ble_eq_true rfl), (Nat.le_of_ble_eq_true rfl), (Nat.le_of_ble_eq_true rfl)⟩ ?_
    refine v_iload3 X dX5_lasts_50 rfl ?_
    refine v_icmp_ne (tgt := 65) X dX5_lasts_51 (by decide) (fun hc2 => ?_) (fun hc2 => ?_)
    · exact hW
    exact absurd hc2 hne
  have hL : ∀ q i T, q + i = 200 → (ok T ∧ sN T = sN S ∧ sP T = sP S ∧ sM T 0 = nI (d + i) ∧ kpS S T) → sH T h 7 = sH S h 7 → sH T h 9 = sH S h 9 → (dtt ra le h (sH S h 9) q (i + 1) T).1 = R → vV p l e { frames := 3, cells := 6, slots := 273, locals := 92 } s m A below meth c 5 z0 D 5 269 Q (n + 5) ad1 (gM cy ad1 0 ra le T (kB cy ad1 n 4 S g)) 35 [some (.ref (ad1 54)), some (.int (nI h)), some (.ref (ad1 n)), some (.int (sH S h 7)), some (.int (nI i))] [] := by
    intro q
    induction q with
    | zero =>
      intro i T hi hT e7 e9 he
      have hTh : h < sN T := by rw [hT.2.1]; exact hh
      have : i = 200 := by omega
      subst this
      have he' : -1 = R := he
      subst he'
      refine v_iload X dX5_lasts_35 rfl ?_
      refine v_sip (v := 200) X dX5_lasts_37 (by decide) ?_
      refine v_icmp_ge (tgt := 65) X dX5_lasts_40 (by decide) (fun hc => ?_) (fun hc => ?_)
      rotate_left
      · exact absurd (Int32.le_refl _) hc
      refine v_aload0 X dX5_lasts_65 rfl ?_
      refine v_iload1 X dX5_lasts_66 rfl ?_
      refine v_bip (v := 7) X dX5_lasts_67 (by decide) ?_
      refine cd_X5_56 X dX5_lasts_69 (m_ho l (w := 7) hn1 hT.1.1 hTh (by decide)) (gM_t hn1) rfl (Nat.le_of_ble_eq_true rfl) ⟨(Nat.le_of_ble_eq_true rfl), (Nat.le_of_ble_eq_true rfl), (Nat.le_of_ble_eq_true rfl), (Nat.le_of_ble_eq_true rfl)⟩ ?_
      refine v_iload3 X dX5_lasts_72 rfl ?_
      refine v_icmp_ne (tgt := 79) X dX5_lasts_73 (by decide) (fun hc2 => ?_) (fun hc2 => ?_)
      · exact absurd e7 hc2
      refine v_ico (v := -1) X dX5_lasts_76 (by decide) ?_
      refine v_istore4 X rfl (Nat.le_of_ble_eq_true rfl) dX5_lasts_77 ?_
      exact hZ T ⟨hT.1, hT.2.1, hT.2.2.1⟩ hT.2.2.2.2
    | succ q ih =>
      intro i T hi hT e7 e9 he
      have hTh : h < sN T := by rw [hT.2.1]; exact hh
      obtain ⟨u, u1, u2, u3⟩ := day_one hwk hT.1 hTh
      obtain ⟨a1, a2, a3, a4⟩ := dayS_ok (ra := ra) (le := le) hwk hT.1
      have hk2 := hT.2.2.2.2.tr (kp_day (ra := ra) (le := le) hwk hT.1)
      rw [dtt_s] at he
      refine v_iload X dX5_lasts_35 rfl ?_
      refine v_sip (v := 200) X dX5_lasts_37 (by decide) ?_
      refine v_icmp_ge (tgt := 65) X dX5_lasts_40 (by decide) (fun hc => ?_) (fun hc => ?_)
      · exact absurd hc (nIge (N := 200) (by omega) (by decide))
      refine v_aload0 X dX5_lasts_43 rfl ?_
      refine v_iload1 X dX5_lasts_44 rfl ?_
      refine v_bip (v := 7) X dX5_lasts_45 (by decide) ?_
      refine cd_X5_56 X dX5_lasts_47 (m_ho l (w := 7) hn1 hT.1.1 hTh (by decide)) (gM_t hn1) rfl (Nat.le_of_ble_eq_true rfl) ⟨(Nat.le_of_ble_eq_true rfl), (Nat.le_of_ble_eq_true rfl), (Nat.le_of_ble_eq_true rfl), (Nat.le_of_ble_eq_true rfl)⟩ ?_
      refine v_iload3 X dX5_lasts_50 rfl ?_
      refine v_icmp_ne (tgt := 65) X dX5_lasts_51 (by decide) (fun hc2 => ?_) (fun hc2 => ?_)
      · exact absurd e7 hc2
      refine v_aload0 X dX5_lasts_54 rfl ?_
      refine cd_X5_88 X dX5_lasts_55 (m_dayOn l hn1 hT.1 hwk hT.2.2.2.1 (by omega)) (gM_t hn1) rfl (Nat.le_of_ble_eq_true rfl) ⟨(Nat.le_of_ble_eq_true rfl), (Nat.le_of_ble_eq_true rfl), (Nat.le_of_ble_eq_true rfl), (Nat.le_of_ble_eq_true rfl)⟩ ?_
      refine v_pop X dX5_lasts_58 rfl ?_
      refine v_iinc4 (v := nI (i + 1)) X rfl (Nat.le_of_ble_eq_true rfl) dX5_lasts_59 (nI_inc i) ?_
      refine v_goto (tgt := 35) X dX5_lasts_62 (by decide) ?_
      by_cases c9 : sH (dayS ra le T) h 9 = sH S h 9
      · rw [if_pos c9] at he
        have hu : u = 0 := u3.mpr (c9.trans e9.symm)
        refine ih (i + 1) _ (by omega) ⟨a1, a2.trans hT.2.1, a3.trans hT.2.2.1, by rw [a4, hT.2.2.2.1, nI_1]; rfl, hk2⟩ ?_ c9 he
        rw [u2, hu, e7]
        exact Int32.add_zero _
      · rw [if_neg c9] at he
        have hu : u ≠ 0 := fun q => c9 ((u3.mp q).trans e9)
        refine hY _ (i + 1) ⟨a1, a2.trans hT.2.1, a3.trans hT.2.2.1⟩ hk2 ?_ he.symm (by omega)
        rw [u2, e7]
        exact fun q => hu ((add_nI_eq (by omega)).mp q)
  refine v_astore2 X rfl (Nat.le_of_ble_eq_true rfl) dX5_lasts_23 ?_
  refine v_aload0 X dX5_lasts_24 rfl ?_
  refine v_iload1 X dX5_lasts_25 rfl ?_
  refine v_bip (v := 7) X dX5_lasts_26 (by decide) ?_
  refine cd_X5_56 X dX5_lasts_28 (m_ho l (w := 7) hn1 hN hh (by decide)) (gM_t hn1) rfl (Nat.le_of_ble_eq_true rfl) ⟨(Nat.le_of_ble_eq_true rfl), (Nat.le_of_ble_eq_true rfl), (Nat.le_of_ble_eq_true rfl), (Nat.le_of_ble_eq_true rfl)⟩ ?_
  refine v_istore3 X rfl (Nat.le_of_ble_eq_true rfl) dX5_lasts_31 ?_
  refine v_ico (v := 0) X dX5_lasts_32 (by decide) ?_
  refine v_istore4 X rfl (Nat.le_of_ble_eq_true rfl) dX5_lasts_33 ?_
  exact hL 200 0 S rfl ⟨ho, rfl, rfl, hd, kpS.rf⟩ rfl rfl hR
