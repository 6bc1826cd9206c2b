/-! Village: a day, days -/
theorem even_pos {f1 f2 : Nat → Int32} (h1 : rgH f1) (h2 : rgH f2) : 0 < f1 1 + f2 1 := by
  obtain ⟨_, b1, _⟩ := id h1
  obtain ⟨_, b2, _⟩ := id h2
  have e : (f1 1 + f2 1).toInt = (f1 1).toInt + (f2 1).toInt := addI (by omega) (by omega)
  rw [Int32.lt_iff_toInt_lt, e, li_0]
  omega
theorem gV_even {cy : Nat → ClassId} {ad : Nat → Nat} {B : Nat} {T : tS} {g0 : Nat → va_E} {i : Nat} (hT : ok T) (hi : i < sP T) :
    va_up (va_up (va_up (gV cy ad B T g0) (B + 3 + evA T i) (cH (upd (sH T (evA T i)) 2 (sH T (evA T i) 2 - flwF (sQ T i) (sH T (evA T i)) (sH T (evB T i)))))) (B + 3 + evB T i) (cH (upd (sH T (evB T i)) 2 (sH T (evB T i) 2 + flwF (sQ T i) (sH T (evA T i)) (sH T (evB T i)))))) (B + 13 + i) (cP (evQ (sQ T i) (sH T (evA T i)) (sH T (evB T i)))) = gV cy ad B (evenT i T) g0 := by
  obtain ⟨h1, h2, h3, _⟩ := okQ_ends hT hi
  rw [gV_upH hT.1 h1]
  unfold evenT evF
  generalize va_up (sH T) (evA T i) (upd (sH T (evA T i)) 2 (sH T (evA T i) 2 - flwF (sQ T i) (sH T (evA T i)) (sH T (evB T i)))) = x1
  have e2 := fun f => gV_upH (cy := cy) (ad := ad) (B := B) (g0 := g0) (S := setH T x1) (f := f) (i := evB T i) hT.1 h2
  rw [e2]
  exact gV_upP (S := setH T (va_up x1 (evB T i) (upd (sH T (evB T i)) 2 (sH T (evB T i) 2 + flwF (sQ T i) (sH T (evA T i)) (sH T (evB T i)))))) hT.1 hT.2.1 hi
set_option maxRecDepth 100000 in
set_option maxHeartbeats 4000000 in
theorem c_X2_rainDown (l : Launch) {z0 n : Nat} {D : va_G} {cy : Nat → ClassId} {ad : Nat → Nat} {v : Int32} {B : Nat} {S : tS} {g0 : Nat → va_E} (hB : B + 25 ≤ n) (ho : ok S) (hv : 0 ≤ v.toInt ∧ v.toInt ≤ 20) : Ct0 l yX2_rainDown cX2_rainDown 4 none 3 87 z0 D cy n ad (gV cy ad B S g0) [.ref (ad B), .int v] none (gV cy ad B (itr (rainS v) 0 (sN S) S) g0) := by
  refine ct_of (by decide +kernel) 2 [some (.ref (ad B)), some (.int v), none, none] (Nat.le_of_ble_eq_true rfl) rfl ?_
  intro p e s m below meth c X hr hlk hnm
  generalize hQ : MQ below (QcR z0 D (isR none n ad (gV cy ad B (itr (rainS v) 0 (sN S) S) g0))) ([.ref (ad B), .int v] : List Value).toArray s 0 0 (fun q => z0 ≤ q) = Q
  refine v_ico (v := 0) X dX2_rainDown_0 (by decide) ?_
  refine v_istore2 X rfl (Nat.le_of_ble_eq_true rfl) dX2_rainDown_1 ?_
  refine loop_inv (rainS v) (fun _ T => ok T ∧ same S T) (fun i T => vV p l e (rmv 3 87) s m ([.ref (ad B), .int v] : List Value).toArray below meth c 4 z0 D 0 0 Q n ad (gV cy ad B T g0) 2 [some (.ref (ad B)), some (.int v), some (.int (nI i)), none] []) (sN S) ?_ ?_ (sN S) 0 S (Nat.zero_add _) ⟨ho, same.rf⟩ ?_
  · intro i T hi hT
    obtain ⟨a, b⟩ := rainS_ok hT.1 (by rw [hT.2.1]; exact hi) hv
    exact ⟨a, hT.2.tr b⟩
  · intro i T hi hT hk
    obtain ⟨hT, hs⟩ := hT
    have hi2 : i < sN T := by rw [hs.1]; exact hi
    obtain ⟨k, hk1, ht⟩ := ok_ter hT hi2
    refine v_iload2 X dX2_rainDown_2 rfl ?_
    refine v_aload0 X dX2_rainDown_3 rfl ?_
    refine gf_X2_29 X dX2_rainDown_4 (gV_v hB) ?_
    refine v_icmp_ge (tgt := 44) X dX2_rainDown_7 (by decide) (fun hc => ?_) (fun hc => ?_)
    · exact absurd hc (nIge hi2 (N31 hT))
    · refine v_aload0 X dX2_rainDown_10 rfl ?_
      refine gf_X2_13 X dX2_rainDown_11 (gV_v hB) ?_
      refine v_iload2 X dX2_rainDown_14 rfl ?_
      refine v_aaldH X dX2_rainDown_15 (gV_ha hB) rfl (Nat.lt_of_lt_of_le hi ho.1) ?_
      refine v_iload1 X dX2_rainDown_16 rfl ?_
      refine cd_X2_128 X dX2_rainDown_17 (c_X0_runOff l (gV_h hB hT.1 hi2)) (gV_h hB hT.1 hi2) rfl (Nat.le_of_ble_eq_true rfl) ⟨(Nat.le_of_ble_eq_true rfl), (Nat.le_of_ble_eq_true rfl), (Nat.le_of_ble_eq_true rfl), (Nat.le_of_ble_eq_true rfl)⟩ ?_
      refine v_istore3 X rfl (Nat.le_of_ble_eq_true rfl) dX2_rainDown_20 ?_
      refine v_aload0 X dX2_rainDown_21 rfl ?_
      refine v_dup X dX2_rainDown_22 rfl ?_
      refine gf_X2_39 X dX2_rainDown_23 (gV_v hB) ?_
      refine v_iload3 X dX2_rainDown_26 rfl ?_
      refine v_iadd X dX2_rainDown_27 ?_
      refine pf_X2_39 X dX2_rainDown_28 (gV_v hB) ?_
      refine vV.gg (gV_upV (T := setM T (upd (sM T) 1 (sM T 1 + rainA v i T))) rfl rfl rfl rfl) ?_
      refine v_aload0 X dX2_rainDown_31 rfl ?_
      refine v_iload2 X dX2_rainDown_32 rfl ?_
      refine v_iload3 X dX2_rainDown_33 rfl ?_
      refine cd_X2_131 X dX2_rainDown_34 (c_X2_pour l (S := setM T (upd (sM T) 1 (sM T 1 + rainA v i T))) hB (ok_M hT) ht) (gV_v hB) rfl (Nat.le_of_ble_eq_true rfl) ⟨(Nat.le_of_ble_eq_true rfl), (Nat.le_of_ble_eq_true rfl), (Nat.le_of_ble_eq_true rfl), (Nat.le_of_ble_eq_true rfl)⟩ ?_
      refine v_pop X dX2_rainDown_37 rfl ?_
      refine v_iinc2 (v := nI (i + 1)) X rfl (Nat.le_of_ble_eq_true rfl) dX2_rainDown_38 (nI_inc i) ?_
      refine v_goto (tgt := 2) X dX2_rainDown_41 (by decide) ?_
      exact vV.le (by exact ⟨rfl, rfl, rfl, trivial⟩) hk
  · intro hT
    refine v_iload2 X dX2_rainDown_2 rfl ?_
    refine v_aload0 X dX2_rainDown_3 rfl ?_
    refine gf_X2_29 X dX2_rainDown_4 (gV_v hB) ?_
    refine v_icmp_ge (tgt := 44) X dX2_rainDown_7 (by decide) (fun hc => ?_) (fun hc => ?_)
    · rw [← hQ]
      exact v_vret X hr hlk dX2_rainDown_44 ⟨rfl, rfl, rfl, rfl⟩
    · exact absurd (by rw [hT.2.1]; exact Int32.le_refl _) hc
set_option maxRecDepth 100000 in
set_option maxHeartbeats 4000000 in
theorem c_X2_openPipesFlow (l : Launch) {z0 n : Nat} {D : va_G} {cy : Nat → ClassId} {ad : Nat → Nat} {B : Nat} {S : tS} {g0 : Nat → va_E} (hB : B + 25 ≤ n) (ho : ok S) : Ct0 l yX2_openPipesFlow cX2_openPipesFlow 3 none 2 65 z0 D cy n ad (gV cy ad B S g0) [.ref (ad B)] none (gV cy ad B (itr evenS 0 (sP S) S) g0) := by
  refine ct_of (by decide +kernel) 2 [some (.ref (ad B)), none, none] (Nat.le_of_ble_eq_true rfl) rfl ?_
  intro p e s m below meth c X hr hlk hnm
  generalize hQ : MQ below (QcR z0 D (isR none n ad (gV cy ad B (itr evenS 0 (sP S) S) g0))) ([.ref (ad B)] : List Value).toArray s 0 0 (fun q => z0 ≤ q) = Q
  refine v_ico (v := 0) X dX2_openPipesFlow_0 (by decide) ?_
  refine v_istore1 X rfl (Nat.le_of_ble_eq_true rfl) dX2_openPipesFlow_1 ?_
  refine loop_inv evenS (fun _ T => ok T ∧ same S T) (fun i T => vV p l e (rmv 2 65) s m ([.ref (ad B)] : List Value).toArray below meth c 3 z0 D 0 0 Q n ad (gV cy ad B T g0) 2 [some (.ref (ad B)), some (.int (nI i)), none] []) (sP S) ?_ ?_ (sP S) 0 S (Nat.zero_add _) ⟨ho, same.rf⟩ ?_
  · intro i T hi hT
    obtain ⟨a, b⟩ := evenS_ok hT.1 (by rw [hT.2.2.1]; exact hi)
    exact ⟨a, hT.2.tr b⟩
  · intro i T hi hT hk
    obtain ⟨hT, hs⟩ := hT
    have hi2 : i < sP T := by rw [hs.2.1]; exact hi
    obtain ⟨h1, h2, h3, e3, e4, e5, e6, e7⟩ := okQ_ends hT hi2
    have hp : 0 < sH T (evA T i) 1 + sH T (evB T i) 1 := even_pos (hT.2.2.1 _ h1) (hT.2.2.1 _ h2)
    refine v_iload1 X dX2_openPipesFlow_2 rfl ?_
    refine v_aload0 X dX2_openPipesFlow_3 rfl ?_
    refine gf_X2_33 X dX2_openPipesFlow_4 (gV_v hB) ?_
    refine v_icmp_ge (tgt := 52) X dX2_openPipesFlow_7 (by decide) (fun hc => ?_) (fun hc => ?_)
    · exact absurd hc (nIge hi2 (P31 hT))
    · refine v_aload0 X dX2_openPipesFlow_10 rfl ?_
      refine gf_X2_19 X dX2_openPipesFlow_11 (gV_v hB) ?_
      refine v_iload1 X dX2_openPipesFlow_14 rfl ?_
      refine v_aaldP X dX2_openPipesFlow_15 (gV_pa hB) rfl (Nat.lt_of_lt_of_le hi ho.2.1) ?_
      refine v_astore2 X rfl (Nat.le_of_ble_eq_true rfl) dX2_openPipesFlow_16 ?_
      refine v_aload2 X dX2_openPipesFlow_17 rfl ?_
      refine gf_X2_79 X dX2_openPipesFlow_18 (gV_p hB hT.1 hT.2.1 hi2) ?_
      refine v_if_eq (tgt := 46) X dX2_openPipesFlow_21 (by decide) (fun hd => ?_) (fun hd => ?_)
      · have e : evenS i T = T := by unfold evenS; rw [if_pos hd]
        rw [e] at hk
        refine v_iinc1 (v := nI (i + 1)) X rfl (Nat.le_of_ble_eq_true rfl) dX2_openPipesFlow_46 (nI_inc i) ?_
        refine v_goto (tgt := 2) X dX2_openPipesFlow_49 (by decide) ?_
        exact vV.le (by exact ⟨rfl, rfl, trivial⟩) hk
      · have e : evenS i T = evenT i T := by unfold evenS; rw [if_neg hd]
        rw [e] at hk
        refine v_aload2 X dX2_openPipesFlow_24 rfl ?_
        refine v_aload0 X dX2_openPipesFlow_25 rfl ?_
        refine gf_X2_13 X dX2_openPipesFlow_26 (gV_v hB) ?_
        refine v_aload2 X dX2_openPipesFlow_29 rfl ?_
        refine gf_X2_70 X dX2_openPipesFlow_30 (gV_p hB hT.1 hT.2.1 hi2) ?_
        refine v_aaldH X dX2_openPipesFlow_33 (gV_ha hB) e3 (Nat.lt_of_lt_of_le h1 hT.1) ?_
        refine v_aload0 X dX2_openPipesFlow_34 rfl ?_
        refine gf_X2_13 X dX2_openPipesFlow_35 (gV_v hB) ?_
        refine v_aload2 X dX2_openPipesFlow_38 rfl ?_
        refine gf_X2_73 X dX2_openPipesFlow_39 (gV_p hB hT.1 hT.2.1 hi2) ?_
        refine v_aaldH X dX2_openPipesFlow_42 (gV_ha hB) e4 (Nat.lt_of_lt_of_le h2 hT.1) ?_
        refine cd_X2_135 X dX2_openPipesFlow_43 (c_X1_evenOut l (gV_p hB hT.1 hT.2.1 hi2) (gV_h hB hT.1 h1) (gV_h hB hT.1 h2) (by have := hT.1; omega) (by have := hT.1; omega) (by omega) hp) (gV_p hB hT.1 hT.2.1 hi2) rfl (Nat.le_of_ble_eq_true rfl) ⟨(Nat.le_of_ble_eq_true rfl), (Nat.le_of_ble_eq_true rfl), (Nat.le_of_ble_eq_true rfl), (Nat.le_of_ble_eq_true rfl)⟩ ?_
        refine vV.gg (gV_even hT hi2) ?_
        refine v_iinc1 (v := nI (i + 1)) X rfl (Nat.le_of_ble_eq_true rfl) dX2_openPipesFlow_46 (nI_inc i) ?_
        refine v_goto (tgt := 2) X dX2_openPipesFlow_49 (by decide) ?_
        exact vV.le (by exact ⟨rfl, rfl, trivial⟩) hk
  · intro hT
    refine v_iload1 X dX2_openPipesFlow_2 rfl ?_
    refine v_aload0 X dX2_openPipesFlow_3 rfl ?_
    refine gf_X2_33 X dX2_openPipesFlow_4 (gV_v hB) ?_
    refine v_icmp_ge (tgt := 52) X dX2_openPipesFlow_7 (by decide) (fun hc => ?_) (fun hc => ?_)
    · rw [← hQ]
      exact v_vret X hr hlk dX2_openPipesFlow_52 ⟨rfl, rfl, rfl, rfl⟩
    · exact absurd (by rw [hT.2.2.1]; exact Int32.le_refl _) hc
set_option maxRecDepth 100000 in
set_option maxHeartbeats 4000000 in
theorem c_X2_liveDay (l : Launch) {z0 n : Nat} {D : va_G} {cy : Nat → ClassId} {ad : Nat → Nat} {ra le : Nat → Int32} {d : Nat} {B : Nat} {S : tS} {g0 : Nat → va_E} (hB : B + 25 ≤ n) (ho : ok S) (h4 : 4 ≤ B) (hw : WX cy ad n g0 ra le) (hwk : wok ra le) (hd : sM S 0 = nI d) (hd2 : d < 2 ^ 31) : Ct0 l yX2_liveDay cX2_liveDay 3 none 4 110 z0 D cy n ad (gV cy ad B S g0) [.ref (ad B)] none (gV cy ad B (dayS ra le S) g0) := by
  refine ct_of (by decide +kernel) 2 [some (.ref (ad B)), none, none] (Nat.le_of_ble_eq_true rfl) rfl ?_
  intro p e s m below meth c X hr hlk hnm
  have hdn : dayN S = d % 28 := by unfold dayN; rw [hd, nI_clamp hd2]
  generalize hQ : MQ below (QcR z0 D (isR none n ad (gV cy ad B (dayS ra le S) g0))) ([.ref (ad B)] : List Value).toArray s 0 0 (fun q => z0 ≤ q) = Q
  refine v_aload0 X dX2_liveDay_0 rfl ?_
  refine v_aload0 X dX2_liveDay_1 rfl ?_
  refine gf_X2_23 X dX2_liveDay_2 (gV_v hB) ?_
  refine v_aload0 X dX2_liveDay_5 rfl ?_
  refine gf_X2_36 X dX2_liveDay_6 (gV_v hB) ?_
  refine vV.top (congrArg Value.int hd) ?_
  refine cd_X2_104 X dX2_liveDay_9 (c_X3_rainOn l (gV_W h4 hw) hd2) (gV_W h4 hw).1 rfl (Nat.le_of_ble_eq_true rfl) ⟨(Nat.le_of_ble_eq_true rfl), (Nat.le_of_ble_eq_true rfl), (Nat.le_of_ble_eq_true rfl), (Nat.le_of_ble_eq_true rfl)⟩ ?_
  rw [← hdn]
  refine cd_X2_109 X dX2_liveDay_12 (c_X2_rainDown l hB ho (hwk.1 _ (Nat.mod_lt _ (by decide)))) (gV_v hB) rfl (Nat.le_of_ble_eq_true rfl) ⟨(Nat.le_of_ble_eq_true rfl), (Nat.le_of_ble_eq_true rfl), (Nat.le_of_ble_eq_true rfl), (Nat.le_of_ble_eq_true rfl)⟩ ?_
  refine v_ico (v := 0) X dX2_liveDay_15 (by decide) ?_
  refine v_istore1 X rfl (Nat.le_of_ble_eq_true rfl) dX2_liveDay_16 ?_
  show vV p l e (rmv 4 110) s m ([.ref (ad B)] : List Value).toArray below meth c 3 z0 D 0 0 Q n ad (gV cy ad B (day1 ra S) g0) 17 [some (.ref (ad B)), some (.int (nI 0)), none] []
  refine loop_inv drinkS (fun _ T => ok T ∧ same S T) (fun i T => vV p l e (rmv 4 110) s m ([.ref (ad B)] : List Value).toArray below meth c 3 z0 D 0 0 Q n ad (gV cy ad B T g0) 17 [some (.ref (ad B)), some (.int (nI i)), none] []) (sN S) ?_ ?_ (sN S) 0 (day1 ra S) (Nat.zero_add _) (day1_ok hwk ho) ?_
  · intro i T hi hT
    obtain ⟨a, b⟩ := drinkS_ok (i := i) hT.1
    exact ⟨a, hT.2.tr b⟩
  · intro i T hi hT hk
    obtain ⟨hT, hs⟩ := hT
    have hi2 : i < sN T := by rw [hs.1]; exact hi
    refine v_iload1 X dX2_liveDay_17 rfl ?_
    refine v_aload0 X dX2_liveDay_18 rfl ?_
    refine gf_X2_29 X dX2_liveDay_19 (gV_v hB) ?_
    refine v_icmp_ge (tgt := 49) X dX2_liveDay_22 (by decide) (fun hc => ?_) (fun hc => ?_)
    · exact absurd hc (nIge hi2 (N31 hT))
    · refine v_aload0 X dX2_liveDay_25 rfl ?_
      refine v_dup X dX2_liveDay_26 rfl ?_
      refine gf_X2_45 X dX2_liveDay_27 (gV_v hB) ?_
      refine v_aload0 X dX2_liveDay_30 rfl ?_
      refine gf_X2_13 X dX2_liveDay_31 (gV_v hB) ?_
      refine v_iload1 X dX2_liveDay_34 rfl ?_
      refine v_aaldH X dX2_liveDay_35 (gV_ha hB) rfl (Nat.lt_of_lt_of_le hi ho.1) ?_
      refine cd_X2_113 X dX2_liveDay_36 (c_X0_drink l (gV_h hB hT.1 hi2)) (gV_h hB hT.1 hi2) rfl (Nat.le_of_ble_eq_true rfl) ⟨(Nat.le_of_ble_eq_true rfl), (Nat.le_of_ble_eq_true rfl), (Nat.le_of_ble_eq_true rfl), (Nat.le_of_ble_eq_true rfl)⟩ ?_
      refine vV.gg (gV_upH hT.1 hi2) ?_
      refine v_iadd X dX2_liveDay_39 ?_
      refine pf_X2_45 X dX2_liveDay_40 (gV_v (S := setH T (va_up (sH T) i (drinkF (sH T i)))) hB) ?_
      refine vV.gg (gV_upV (T := drinkS i T) rfl rfl rfl rfl) ?_
      refine v_iinc1 (v := nI (i + 1)) X rfl (Nat.le_of_ble_eq_true rfl) dX2_liveDay_43 (nI_inc i) ?_
      refine v_goto (tgt := 17) X dX2_liveDay_46 (by decide) ?_
      exact hk
  intro hT
  refine v_iload1 X dX2_liveDay_17 rfl ?_
  refine v_aload0 X dX2_liveDay_18 rfl ?_
  refine gf_X2_29 X dX2_liveDay_19 (gV_v hB) ?_
  refine v_icmp_ge (tgt := 49) X dX2_liveDay_22 (by decide) (fun hc => ?_) (fun hc => ?_)
  · show vV p l e (rmv 4 110) s m ([.ref (ad B)] : List Value).toArray below meth c 3 z0 D 0 0 Q n ad (gV cy ad B (day2 ra S) g0) 49 [some (.ref (ad B)), some (.int (nI (sN S))), none] []
    refine v_ico (v := 0) X dX2_liveDay_49 (by decide) ?_
    refine v_istore1 X rfl (Nat.le_of_ble_eq_true rfl) dX2_liveDay_50 ?_
    refine loop_inv gardS (fun _ T => ok T ∧ same S T) (fun i T => vV p l e (rmv 4 110) s m ([.ref (ad B)] : List Value).toArray below meth c 3 z0 D 0 0 Q n ad (gV cy ad B T g0) 51 [some (.ref (ad B)), some (.int (nI i)), none] []) (sN S) ?_ ?_ (sN S) 0 (day2 ra S) (Nat.zero_add _) (day2_ok hwk ho) ?_
    · intro i T hi hT
      obtain ⟨a, b⟩ := gardS_ok (i := i) hT.1
      exact ⟨a, hT.2.tr b⟩
    · intro i T hi hT hk
      obtain ⟨hT, hs⟩ := hT
      have hi2 : i < sN T := by rw [hs.1]; exact hi
      refine v_iload1 X dX2_liveDay_51 rfl ?_
      refine v_aload0 X dX2_liveDay_52 rfl ?_
      refine gf_X2_29 X dX2_liveDay_53 (gV_v hB) ?_
      refine v_icmp_ge (tgt := 74) X dX2_liveDay_56 (by decide) (fun hc => ?_) (fun hc => ?_)
      · exact absurd hc (nIge hi2 (N31 hT))
      · refine v_aload0 X dX2_liveDay_59 rfl ?_
        refine gf_X2_13 X dX2_liveDay_60 (gV_v hB) ?_
        refine v_iload1 X dX2_liveDay_63 rfl ?_
        refine v_aaldH X dX2_liveDay_64 (gV_ha hB) rfl (Nat.lt_of_lt_of_le hi ho.1) ?_
        refine cd_X2_116 X dX2_liveDay_65 (c_X0_waterGarden l (gV_h hB hT.1 hi2)) (gV_h hB hT.1 hi2) rfl (Nat.le_of_ble_eq_true rfl) ⟨(Nat.le_of_ble_eq_true rfl), (Nat.le_of_ble_eq_true rfl), (Nat.le_of_ble_eq_true rfl), (Nat.le_of_ble_eq_true rfl)⟩ ?_
        refine vV.gg (gV_upH hT.1 hi2) ?_
        refine v_iinc1 (v := nI (i + 1)) X rfl (Nat.le_of_ble_eq_true rfl) dX2_liveDay_68 (nI_inc i) ?_
        refine v_goto (tgt := 51) X dX2_liveDay_71 (by decide) ?_
        exact hk
    intro hT
    refine v_iload1 X dX2_liveDay_51 rfl ?_
    refine v_aload0 X dX2_liveDay_52 rfl ?_
    refine gf_X2_29 X dX2_liveDay_53 (gV_v hB) ?_
    refine v_icmp_ge (tgt := 74) X dX2_liveDay_56 (by decide) (fun hc => ?_) (fun hc => ?_)
    · show vV p l e (rmv 4 110) s m ([.ref (ad B)] : List Value).toArray below meth c 3 z0 D 0 0 Q n ad (gV cy ad B (day3 ra S) g0) 74 [some (.ref (ad B)), some (.int (nI (sN S))), none] []
      refine v_aload0 X dX2_liveDay_74 rfl ?_
      refine cd_X2_119 X dX2_liveDay_75 (c_X2_openPipesFlow l hB (day3_ok hwk ho).1) (gV_v hB) rfl (Nat.le_of_ble_eq_true rfl) ⟨(Nat.le_of_ble_eq_true rfl), (Nat.le_of_ble_eq_true rfl), (Nat.le_of_ble_eq_true rfl), (Nat.le_of_ble_eq_true rfl)⟩ ?_
      rw [show sP (day3 ra S) = sP S from (day3_ok hwk ho).2.2.1]
      show vV p l e (rmv 4 110) s m ([.ref (ad B)] : List Value).toArray below meth c 3 z0 D 0 0 Q n ad (gV cy ad B (day4 ra S) g0) 78 [some (.ref (ad B)), some (.int (nI (sN S))), none] []
      refine v_aload0 X dX2_liveDay_78 rfl ?_
      refine gf_X2_23 X dX2_liveDay_79 (gV_v hB) ?_
      refine v_aload0 X dX2_liveDay_82 rfl ?_
      refine gf_X2_36 X dX2_liveDay_83 (gV_v hB) ?_
      refine vV.top (congrArg Value.int ((day4_ok hwk ho).2.2.2.trans hd)) ?_
      refine cd_X2_122 X dX2_liveDay_86 (c_X3_leavesOn l (gV_W h4 hw) hd2) (gV_W h4 hw).1 rfl (Nat.le_of_ble_eq_true rfl) ⟨(Nat.le_of_ble_eq_true rfl), (Nat.le_of_ble_eq_true rfl), (Nat.le_of_ble_eq_true rfl), (Nat.le_of_ble_eq_true rfl)⟩ ?_
      rw [← hdn]
      refine v_istore1 X rfl (Nat.le_of_ble_eq_true rfl) dX2_liveDay_89 ?_
      refine v_ico (v := 0) X dX2_liveDay_90 (by decide) ?_
      refine v_istore2 X rfl (Nat.le_of_ble_eq_true rfl) dX2_liveDay_91 ?_
      refine loop_inv (clogS (le (dayN S))) (fun _ T => ok T ∧ same S T) (fun i T => vV p l e (rmv 4 110) s m ([.ref (ad B)] : List Value).toArray below meth c 3 z0 D 0 0 Q n ad (gV cy ad B T g0) 92 [some (.ref (ad B)), some (.int (le (dayN S))), some (.int (nI i))] []) (sN S) ?_ ?_ (sN S) 0 (day4 ra S) (Nat.zero_add _) (day4_ok hwk ho) ?_
      · intro i T hi hT
        obtain ⟨a, b⟩ := clogS_ok (i := i) hT.1 (hwk.2 _ (dayN_lt S))
        exact ⟨a, hT.2.tr b⟩
      · intro i T hi hT hk
        obtain ⟨hT, hs⟩ := hT
        have hi2 : i < sN T := by rw [hs.1]; exact hi
        refine v_iload2 X dX2_liveDay_92 rfl ?_
        refine v_aload0 X dX2_liveDay_93 rfl ?_
        refine gf_X2_29 X dX2_liveDay_94 (gV_v hB) ?_
        refine v_icmp_ge (tgt := 116) X dX2_liveDay_97 (by decide) (fun hc => ?_) (fun hc => ?_)
        · exact absurd hc (nIge hi2 (N31 hT))
        · refine v_aload0 X dX2_liveDay_100 rfl ?_
          refine gf_X2_13 X dX2_liveDay_101 (gV_v hB) ?_
          refine v_iload2 X dX2_liveDay_104 rfl ?_
          refine v_aaldH X dX2_liveDay_105 (gV_ha hB) rfl (Nat.lt_of_lt_of_le hi ho.1) ?_
          refine v_iload1 X dX2_liveDay_106 rfl ?_
          refine cd_X2_125 X dX2_liveDay_107 (c_X0_clog l (gV_h hB hT.1 hi2)) (gV_h hB hT.1 hi2) rfl (Nat.le_of_ble_eq_true rfl) ⟨(Nat.le_of_ble_eq_true rfl), (Nat.le_of_ble_eq_true rfl), (Nat.le_of_ble_eq_true rfl), (Nat.le_of_ble_eq_true rfl)⟩ ?_
          refine vV.gg (gV_upH hT.1 hi2) ?_
          refine v_iinc2 (v := nI (i + 1)) X rfl (Nat.le_of_ble_eq_true rfl) dX2_liveDay_110 (nI_inc i) ?_
          refine v_goto (tgt := 92) X dX2_liveDay_113 (by decide) ?_
          exact hk
      intro hT
      refine v_iload2 X dX2_liveDay_92 rfl ?_
      refine v_aload0 X dX2_liveDay_93 rfl ?_
      refine gf_X2_29 X dX2_liveDay_94 (gV_v hB) ?_
      refine v_icmp_ge (tgt := 116) X dX2_liveDay_97 (by decide) (fun hc => ?_) (fun hc => ?_)
      · show vV p l e (rmv 4 110) s m ([.ref (ad B)] : List Value).toArray below meth c 3 z0 D 0 0 Q n ad (gV cy ad B (day5 ra le S) g0) 116 [some (.ref (ad B)), some (.int (le (dayN S))), some (.int (nI (sN S)))] []
        refine v_aload0 X dX2_liveDay_116 rfl ?_
        refine v_dup X dX2_liveDay_117 rfl ?_
        refine gf_X2_36 X dX2_liveDay_118 (gV_v hB) ?_
        refine v_ico (v := 1) X dX2_liveDay_121 (by decide) ?_
        refine v_iadd X dX2_liveDay_122 ?_
        refine pf_X2_36 X dX2_liveDay_123 (gV_v hB) ?_
        refine vV.gg (gV_upV (T := dayS ra le S) rfl rfl rfl rfl) ?_
        rw [← hQ]
        exact v_vret X hr hlk dX2_liveDay_126 ⟨rfl, rfl, rfl, rfl⟩
      · exact absurd (by rw [hT.2.1]; exact Int32.le_refl _) hc
    · exact absurd (by rw [hT.2.1]; exact Int32.le_refl _) hc
  · exact absurd (by rw [hT.2.1]; exact Int32.le_refl _) hc
set_option maxRecDepth 100000 in
set_option maxHeartbeats 4000000 in
theorem c_X2_live (l : Launch) {z0 n : Nat} {D : va_G} {cy : Nat → ClassId} {ad : Nat → Nat} {ra le : Nat → Int32} {d k : Nat} {B : Nat} {S : tS} {g0 : Nat → va_E} (hB : B + 25 ≤ n) (ho : ok S) (h4 : 4 ≤ B) (hw : WX cy ad n g0 ra le) (hwk : wok ra le) (hd : sM S 0 = nI d) (hd2 : d + k < 2 ^ 31) : Ct0 l yX2_live cX2_live 4 (some FieldType.int) 5 132 z0 D cy n ad (gV cy ad B S g0) [.ref (ad B), .int (nI k)] (some (.int (sumS 7 (daysS ra le k S) - sumS 7 S))) (gV cy ad B (daysS ra le k S) g0) := by
  refine ct_of (by decide +kernel) 2 [some (.ref (ad B)), some (.int (nI k)), none, none] (Nat.le_of_ble_eq_true rfl) rfl ?_
  intro p e s m below meth c X hr hlk hnm
  generalize hQ : MQ below (QcR z0 D (isR (some (.int (sumS 7 (daysS ra le k S) - sumS 7 S))) n ad (gV cy ad B (daysS ra le k S) g0))) ([.ref (ad B), .int (nI k)] : List Value).toArray s 0 0 (fun q => z0 ≤ q) = Q
  refine v_aload0 X dX2_live_0 rfl ?_
  refine cd_X2_94 X dX2_live_1 (c_X2_allThirst l hB ho) (gV_v hB) rfl (Nat.le_of_ble_eq_true rfl) ⟨(Nat.le_of_ble_eq_true rfl), (Nat.le_of_ble_eq_true rfl), (Nat.le_of_ble_eq_true rfl), (Nat.le_of_ble_eq_true rfl)⟩ ?_
  refine v_istore2 X rfl (Nat.le_of_ble_eq_true rfl) dX2_live_4 ?_
  refine v_ico (v := 0) X dX2_live_5 (by decide) ?_
  refine v_istore3 X rfl (Nat.le_of_ble_eq_true rfl) dX2_live_6 ?_
  refine loop_inv (fun _ => dayS ra le) (fun i T => ok T ∧ sM T 0 = nI (d + i)) (fun i T => vV p l e (rmv 5 132) s m ([.ref (ad B), .int (nI k)] : List Value).toArray below meth c 4 z0 D 0 0 Q n ad (gV cy ad B T g0) 7 [some (.ref (ad B)), some (.int (nI k)), some (.int (sumS 7 S)), some (.int (nI i))] []) k ?_ ?_ k 0 S (Nat.zero_add _) ⟨ho, hd⟩ ?_
  · intro i T hi hT
    obtain ⟨a, b, c, e⟩ := dayS_ok hwk hT.1
    exact ⟨a, by rw [e, hT.2]; exact nI_1 _⟩
  · intro i T hi hT hk
    refine v_iload3 X dX2_live_7 rfl ?_
    refine v_iload1 X dX2_live_8 rfl ?_
    refine v_icmp_ge (tgt := 22) X dX2_live_9 (by decide) (fun hc => ?_) (fun hc => ?_)
    · exact absurd hc (nIge hi (by omega))
    · refine v_aload0 X dX2_live_12 rfl ?_
      refine cd_X2_98 X dX2_live_13 (c_X2_liveDay l hB hT.1 h4 hw hwk hT.2 (by omega)) (gV_v hB) rfl (Nat.le_of_ble_eq_true rfl) ⟨(Nat.le_of_ble_eq_true rfl), (Nat.le_of_ble_eq_true rfl), (Nat.le_of_ble_eq_true rfl), (Nat.le_of_ble_eq_true rfl)⟩ ?_
      refine v_iinc3 (v := nI (i + 1)) X rfl (Nat.le_of_ble_eq_true rfl) dX2_live_16 (nI_inc i) ?_
      refine v_goto (tgt := 7) X dX2_live_19 (by decide) ?_
      exact hk
  · intro hT
    refine v_iload3 X dX2_live_7 rfl ?_
    refine v_iload1 X dX2_live_8 rfl ?_
    refine v_icmp_ge (tgt := 22) X dX2_live_9 (by decide) (fun hc => ?_) (fun hc => ?_)
    · refine v_aload0 X dX2_live_22 rfl ?_
      refine cd_X2_94 X dX2_live_23 (c_X2_allThirst l hB hT.1) (gV_v hB) rfl (Nat.le_of_ble_eq_true rfl) ⟨(Nat.le_of_ble_eq_true rfl), (Nat.le_of_ble_eq_true rfl), (Nat.le_of_ble_eq_true rfl), (Nat.le_of_ble_eq_true rfl)⟩ ?_
      refine v_iload2 X dX2_live_26 rfl ?_
      refine v_isub X dX2_live_27 ?_
      rw [← hQ]
      exact v_iret X hr hlk dX2_live_28 ⟨rfl, rfl, rfl, rfl⟩
    · exact absurd (Int32.le_refl _) hc
set_option maxRecDepth 100000 in
set_option maxHeartbeats 4000000 in
theorem c_X2_daysToThirst (l : Launch) {z0 n : Nat} {D : va_G} {cy : Nat → ClassId} {ad : Nat → Nat} {ra le : Nat → Int32} {d j k : Nat} {B : Nat} {S : tS} {g0 : Nat → va_E} (hB : B + 25 ≤ n) (ho : ok S) (hj : j < sN S) (h4 : 4 ≤ B) (hw : WX cy ad n g0 ra le) (hwk : wok ra le) (hd : sM S 0 = nI d) (hd2 : d + k < 2 ^ 30) : Ct0 l yX2_daysToThirst cX2_daysToThirst 6 (some FieldType.int) 5 132 z0 D cy n ad (gV cy ad B S g0) [.ref (ad B), .int (nI j), .int (nI k)] (some (.int (dtt ra le j (sH S j 9) k 1 S).1)) (gV cy ad B (dtt ra le j (sH S j 9) k 1 S).2 g0) := by
  refine ct_of (by decide +kernel) 3 [some (.ref (ad B)), some (.int (nI j)), some (.int (nI k)), none, none, none] (Nat.le_of_ble_eq_true rfl) rfl ?_
  intro p e s m below meth c X hr hlk hnm
  generalize hQ : MQ below (QcR z0 D (isR (some (.int (dtt ra le j (sH S j 9) k 1 S).1)) n ad (gV cy ad B (dtt ra le j (sH S j 9) k 1 S).2 g0))) ([.ref (ad B), .int (nI j), .int (nI k)] : List Value).toArray s 0 0 (fun q => z0 ≤ q) = Q
  refine v_aload0 X dX2_daysToThirst_0 rfl ?_
  refine gf_X2_13 X dX2_daysToThirst_1 (gV_v hB) ?_
  refine v_iload1 X dX2_daysToThirst_4 rfl ?_
  refine v_aaldH X dX2_daysToThirst_5 (gV_ha hB) rfl (Nat.lt_of_lt_of_le hj ho.1) ?_
  refine v_astore3 X rfl (Nat.le_of_ble_eq_true rfl) dX2_daysToThirst_6 ?_
  refine v_aload3 X dX2_daysToThirst_7 rfl ?_
  refine gf_X2_101 X dX2_daysToThirst_8 (gV_h hB ho.1 hj) ?_
  refine v_istore4 X rfl (Nat.le_of_ble_eq_true rfl) dX2_daysToThirst_11 ?_
  refine v_ico (v := 1) X dX2_daysToThirst_13 (by decide) ?_
  refine v_istore5 X rfl (Nat.le_of_ble_eq_true rfl) dX2_daysToThirst_14 ?_
  have loop : ∀ (f : Nat) (T : tS) (i : Nat), i + f = k + 1 → ok T → sN T = sN S → sM T 0 = nI (d + (i - 1)) → 1 ≤ i → dtt ra le j (sH S j 9) f i T = dtt ra le j (sH S j 9) k 1 S → vV p l e (rmv 5 132) s m ([.ref (ad B), .int (nI j), .int (nI k)] : List Value).toArray below meth c 6 z0 D 0 0 Q n ad (gV cy ad B T g0) 16 [some (.ref (ad B)), some (.int (nI j)), some (.int (nI k)), some (.ref (ad (B + 3 + j))), some (.int (sH S j 9)), some (.int (nI i))] [] := by
    intro f
    induction f with
    | zero =>
      intro T i hi hT hTN hTd0 h1 he
      refine v_iload X dX2_daysToThirst_16 rfl ?_
      refine v_iload2 X dX2_daysToThirst_18 rfl ?_
      refine v_icmp_gt (tgt := 44) X dX2_daysToThirst_19 (by decide) (fun hc => ?_) (fun hc => ?_)
      · refine v_ico (v := -1) X dX2_daysToThirst_44 (by decide) ?_
        rw [← hQ]
        exact v_iret X hr hlk dX2_daysToThirst_45 ⟨by rw [← he]; rfl, rfl, rfl, by rw [← he]; rfl⟩
      · exact absurd (nI_lt (a := k) (b := i) (by omega) (by omega)) hc
    | succ f ih =>
      intro T i hi hT hTN hTd0 h1 he
      have hTd : (ok (dayS ra le T) ∧ True) ∧ sN (dayS ra le T) = sN T ∧ sM (dayS ra le T) 0 = nI (d + (i + 1 - 1)) := by
        obtain ⟨a, b, c, e⟩ := dayS_ok hwk hT
        refine ⟨⟨a, trivial⟩, b, ?_⟩
        rw [e, hTd0, show d + (i + 1 - 1) = d + (i - 1) + 1 by omega]
        exact nI_1 _
      refine v_iload X dX2_daysToThirst_16 rfl ?_
      refine v_iload2 X dX2_daysToThirst_18 rfl ?_
      refine v_icmp_gt (tgt := 44) X dX2_daysToThirst_19 (by decide) (fun hc => ?_) (fun hc => ?_)
      · exact absurd hc (nI_nlt (a := k) (b := i) (by omega) (by omega))
      · refine v_aload0 X dX2_daysToThirst_22 rfl ?_
        refine cd_X2_98 X dX2_daysToThirst_23 (c_X2_liveDay l hB hT h4 hw hwk hTd0 (by omega)) (gV_v hB) rfl (Nat.le_of_ble_eq_true rfl) ⟨(Nat.le_of_ble_eq_true rfl), (Nat.le_of_ble_eq_true rfl), (Nat.le_of_ble_eq_true rfl), (Nat.le_of_ble_eq_true rfl)⟩ ?_
        refine v_aload3 X dX2_daysToThirst_26 rfl ?_
        refine gf_X2_101 X dX2_daysToThirst_27 (gV_h (S := dayS ra le T) hB hTd.1.1.1 (by rw [hTd.2.1, hTN]; exact hj)) ?_
        refine v_iload X dX2_daysToThirst_30 rfl ?_
        refine v_icmp_eq (tgt := 38) X dX2_daysToThirst_32 (by decide) (fun hq => ?_) (fun hq => ?_)
        · have he2 : dtt ra le j (sH S j 9) f (i + 1) (dayS ra le T) = dtt ra le j (sH S j 9) k 1 S := by
            rw [← he, dtt, if_pos hq]
          have hI := ih (dayS ra le T) (i + 1) (by omega) hTd.1.1 (hTd.2.1.trans hTN) hTd.2.2 (by omega) he2
          refine v_iinc5 (v := nI (i + 1)) X rfl (Nat.le_of_ble_eq_true rfl) dX2_daysToThirst_38 (nI_inc i) ?_
          refine v_goto (tgt := 16) X dX2_daysToThirst_41 (by decide) ?_
          exact hI
        · have he2 : dtt ra le j (sH S j 9) k 1 S = (nI i, dayS ra le T) := by
            rw [← he, dtt, if_neg hq]
          refine v_iload X dX2_daysToThirst_35 rfl ?_
          rw [← hQ]
          exact v_iret X hr hlk dX2_daysToThirst_37 ⟨by rw [he2], rfl, rfl, by rw [he2]⟩
  exact loop k S 1 (by omega) ho rfl (by rw [hd]; rfl) (by omega) rfl
