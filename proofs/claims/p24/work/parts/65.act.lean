/-! something done to both villages -/
def PA (cy : Nat → ClassId) (n : Nat) (ad : Nat → Nat) (S : tS) (d : Nat) : CtP := fun r n' ad' g' => r = some (.int 1) ∧ n' = n ∧ (∀ k, k < n → (k < 56 ∨ 84 ≤ k) → ad' k = ad k) ∧ ∃ (S' : tS) (ra' le' : Nat → Int32) (g0' : Nat → va_E), sN S' = sN S ∧ sP S' = sP S ∧ IJ cy ad' S' ra' le' g0' d ∧ ∀ k, k < n → g' k = jW cy ad' S' S' ra' le' g0' k
section JA
variable {cy : Nat → ClassId} {ad : Nat → Nat} {n : Nat} {S T : tS} {ra le : Nat → Int32} {g0 : Nat → va_E}
theorem jS_upS {U : tS} (ho : ok S) (hN : sN U = sN T) (hP : sP U = sP T) (hH : sH U = sH T) (hQ : sQ U = sQ T) (hF : sF U = sF T) : va_up (jW cy ad S T ra le g0) 54 (cS ad U) = jW cy ad S U ra le g0 := by
  unfold jW
  rw [gV_upo (by have := ho.1; have := ho.2.1; unfold gOut; omega), gS_upS hN hP hH hQ hF]
theorem jS_upQ (ho : ok S) {i : Nat} {f : Nat → Int32} (hi : i < sP T) : va_up (jW cy ad S T ra le g0) (97 + sN T + i) (iA cy 5 (c5 f)) = jW cy ad S (setQ T (va_up (sQ T) i f)) ra le g0 := by
  unfold jW
  rw [gV_upo (by have := ho.1; have := ho.2.1; unfold gOut; omega), gS_upQ hi]
theorem j_pour (l : Launch) {z0 : Nat} {D : va_G} {k j : Nat} {a : Int32} (ho : ok S) (hn : 97 + sN T + sP T ≤ n) (hoT : ok T) (hj : j < sN T) (ha : 0 ≤ a.toInt) (hA : a.toInt ≤ 100000) (ht : Ter (sN T) (sH T) k (sH T j 6)) : Ct0 l yX6_pour cX6_pour 5 (some FieldType.int) (k + 1) (40 + 24 * k) z0 D cy n ad (jW cy ad S T ra le g0) [.ref (ad 54), .int (nI j), .int a] (some (.int (pourA T (nI j) a))) (jW cy ad S (pourT T (nI j) a) ra le g0) := by
  rw [jW_c ho.1 ho.2.1, jW_c ho.1 ho.2.1]
  exact c_X6_pour l k j hn hoT hj ha hA ht
end JA
theorem dbJ.qf0 {S T : tS} (h : dbJ S) (hP : sP T = sP S) (hQ : ∀ p, p < sP S → ∀ w, w ≠ 3 → sQ T p w = sQ S p w) (hF : sF T = sF S) : dbJ T := h.to hP (fun p hp x y => by
  unfold debtF
  rw [hQ p hp 0 (by decide), hQ p hp 1 (by decide), hQ p hp 5 (by decide)]) hF
section AC
variable {l : Launch} {p : Program} {e : Env} {s : State} {m : MethodId} {A : Array Value} {below : List Frame} {meth : Method} {c : Code} {Q : State → Prop} {z0 n : Nat} {D : va_G} {cy : Nat → ClassId} {ad : Nat → Nat} {S : tS} {ra le : Nat → Int32} {g0 : Nat → va_E} {d h : Nat} {x : Int32}
set_option maxRecDepth 100000 in
set_option maxHeartbeats 4000000 in
theorem v_a0 (X : vCx p s m A c cL_act RL 14 z0 D cy) (hr : meth.sig.returnType = some .boolean) (hlk : meth.locks = false) (hQ : MQ below (QcR z0 D (PA cy n ad S d)) A s 1 2 (fun q => z0 ≤ q) = Q) (hn : n = 97 + sN S + sP S) (hI : IJ cy ad S ra le g0 d) (hh : h < sN S) : vV p l e { frames := 14, cells := 1, slots := 2, locals := 300 } s m A below meth c 14 z0 D 0 0 Q n ad (jW cy ad S S ra le g0) 68 [some (.ref (ad 0)), some (.ref (ad 54)), some (.int x), some (.int (nI (sN S))), some (.int (nI h)), some (.ref (ad (97 + h))), none, none, none, none, none, none, none, none] [] := by
  obtain ⟨ho, hdb, hwk, hd, hB⟩ := id hI
  refine v_ico (v := 1) X dL_act_68 (by decide) ?_
  refine v_iload2 X dL_act_69 rfl ?_
  refine v_ico (v := 3) X dL_act_70 (by decide) ?_
  refine v_ishr X dL_act_71 ?_
  refine v_sip (v := 500) X dL_act_72 (by decide) ?_
  refine v_below X dL_act_75 (N := 500) rfl (by omega) (by omega) (Nat.le_of_ble_eq_true rfl) ⟨(by first | exact Nat.le_of_ble_eq_true rfl | (show k1 + 1 + 1 ≤ 14; omega) | (show 8 + (5 + 11) + (40 + 24 * k1) ≤ 300; omega)), (by first | exact Nat.le_of_ble_eq_true rfl | (show k1 + 1 + 1 ≤ 14; omega) | (show 8 + (5 + 11) + (40 + 24 * k1) ≤ 300; omega)), (Nat.le_of_ble_eq_true rfl), (Nat.le_of_ble_eq_true rfl)⟩ ?_
  generalize hb : bel (x >>> (3 &&& 31)) 500 = b
  have hb5 : b < 500 := by rw [← hb]; exact bel_lt _ (by omega)
  have iw : IN (1 + nI b) 1 500 := IN_add (a := 1) (b := 500) (by omega) (by omega)
  have iw' := iw.i
  generalize hw : (1 : Int32) + nI b = w at iw iw'
  have c1 : (1 : Int32).toInt = 1 := by decide
  have c500 : (500 : Int32).toInt = 500 := by decide
  have w1 : 0 ≤ w.toInt := by omega
  have w2 : w.toInt ≤ 100000 := by omega
  obtain ⟨hoT, -, -⟩ := pourT_ok (S := caT w S) (ok_M ho) hh w1
  obtain ⟨k1, ht⟩ := ho.2.2.2.2 h hh
  have hk1 : k1 ≤ 9 := by
    have q : Ter (sN S) (sH S) (k1 + 1) (nI h) := ⟨h, hh, rfl, ht⟩
    have := q.le ho.1
    have := ho.1
    omega
  refine v_iadd X dL_act_78 ?_
  rw [hw]
  refine v_istore6 X rfl (Nat.le_of_ble_eq_true rfl) dL_act_79 ?_
  refine v_aload1 X dL_act_81 rfl ?_
  refine v_dup X dL_act_82 rfl ?_
  refine gf_L_66 X dL_act_83 (jS_s ho (Nat.le_of_eq hn.symm)) ?_
  refine v_iload X dL_act_86 rfl ?_
  refine v_iadd X dL_act_88 ?_
  refine pf_L_66 X dL_act_89 (jS_s ho (Nat.le_of_eq hn.symm)) ?_
  refine vV.gg (jS_upS (U := caT w S) ho rfl rfl rfl rfl rfl) ?_
  refine v_aload0 X dL_act_92 rfl ?_
  refine v_iload X dL_act_93 rfl ?_
  refine v_iload X dL_act_95 rfl ?_
  refine cd_L_69 X dL_act_97 (c_cart l (hB.R (by omega)) ho hh iw) (jS_r hB (by omega)) rfl (Nat.le_of_ble_eq_true rfl) ⟨(by first | exact Nat.le_of_ble_eq_true rfl | (show k1 + 1 + 1 ≤ 14; omega) | (show 8 + (5 + 11) + (40 + 24 * k1) ≤ 300; omega)), (by first | exact Nat.le_of_ble_eq_true rfl | (show k1 + 1 + 1 ≤ 14; omega) | (show 8 + (5 + 11) + (40 + 24 * k1) ≤ 300; omega)), (Nat.le_of_ble_eq_true rfl), (Nat.le_of_ble_eq_true rfl)⟩ ?_
  refine v_aload1 X dL_act_100 rfl ?_
  refine v_iload X dL_act_101 rfl ?_
  refine v_iload X dL_act_103 rfl ?_
  refine cd_L_72 X dL_act_105 (j_pour l (k := k1) hoT (Nat.le_of_eq hn.symm) (ok_M ho) hh w1 w2 ht) (jS_s hoT (Nat.le_of_eq hn.symm)) rfl (Nat.le_of_ble_eq_true rfl) ⟨(by first | exact Nat.le_of_ble_eq_true rfl | (show k1 + 1 + 1 ≤ 14; omega) | (show 8 + (5 + 11) + (40 + 24 * k1) ≤ 300; omega)), (by first | exact Nat.le_of_ble_eq_true rfl | (show k1 + 1 + 1 ≤ 14; omega) | (show 8 + (5 + 11) + (40 + 24 * k1) ≤ 300; omega)), (Nat.le_of_ble_eq_true rfl), (Nat.le_of_ble_eq_true rfl)⟩ ?_
  refine v_icmp_ne (tgt := 115) X dL_act_108 (by decide) (fun hc => absurd rfl hc) (fun _ => ?_)
  refine v_ico (v := 1) X dL_act_111 (by decide) ?_
  refine v_goto (tgt := 116) X dL_act_112 (by decide) ?_
  rw [← hQ]
  exact (v_zret X hr hlk dL_act_116 rfl ⟨rfl, rfl, fun _ _ _ => rfl, pourT (caT w S) (nI h) w, ra, le, g0, rfl, rfl, ⟨hoT, ⟨hdb.1.qf rfl rfl rfl, cons_cart ho hh hdb.2⟩, hwk, hd, hB.to (Nat.le_refl _) (Nat.le_refl _)⟩, fun _ _ => rfl⟩).wd (by decide) (by decide)
set_option maxRecDepth 100000 in
set_option maxHeartbeats 4000000 in
theorem v_a2 (X : vCx p s m A c cL_act RL 14 z0 D cy) (hr : meth.sig.returnType = some .boolean) (hlk : meth.locks = false) (hQ : MQ below (QcR z0 D (PA cy n ad S d)) A s 1 2 (fun q => z0 ≤ q) = Q) (hn : n = 97 + sN S + sP S) (hI : IJ cy ad S ra le g0 d) (hh : h < sN S) : vV p l e { frames := 14, cells := 1, slots := 2, locals := 300 } s m A below meth c 14 z0 D 0 0 Q n ad (jW cy ad S S ra le g0) 117 [some (.ref (ad 0)), some (.ref (ad 54)), some (.int x), some (.int (nI (sN S))), some (.int (nI h)), some (.ref (ad (97 + h))), none, none, none, none, none, none, none, none] [] := by
  obtain ⟨ho, hdb, hwk, hd, hB⟩ := id hI
  have hoT : ok (clT h S) := clT_ok ho hh
  refine v_aload X dL_act_117 rfl ?_
  refine gf_L_75 X dL_act_119 (jS_hh ho (Nat.le_of_eq hn.symm) hh) ?_
  refine v_istore7 X rfl (Nat.le_of_ble_eq_true rfl) dL_act_122 ?_
  refine v_aload X dL_act_124 rfl ?_
  refine v_ico (v := 0) X dL_act_126 (by decide) ?_
  refine pf_L_75 X dL_act_127 (jS_hh ho (Nat.le_of_eq hn.symm) hh) ?_
  refine vV.gg (jS_upH (f := upd (sH S h) 5 0) ho hh) ?_
  show vV p l e { frames := 14, cells := 1, slots := 2, locals := 300 } s m A below meth c 14 z0 D 0 0 Q n ad (jW cy ad S (clT h S) ra le g0) 130 [some (.ref (ad 0)), some (.ref (ad 54)), some (.int x), some (.int (nI (sN S))), some (.int (nI h)), some (.ref (ad (97 + h))), none, some (.int (sH S h 5)), none, none, none, none, none, none] []
  refine v_aload0 X dL_act_130 rfl ?_
  refine v_iload X dL_act_131 rfl ?_
  refine cd_L_78 X dL_act_133 (c_clean l (hB.R (by omega)) ho hh) (jS_r hB (by omega)) rfl (Nat.le_of_ble_eq_true rfl) ⟨(Nat.le_of_ble_eq_true rfl), (Nat.le_of_ble_eq_true rfl), (Nat.le_of_ble_eq_true rfl), (Nat.le_of_ble_eq_true rfl)⟩ ?_
  refine v_iload X dL_act_136 rfl ?_
  refine v_icmp_ne (tgt := 145) X dL_act_138 (by decide) (fun hc => absurd rfl hc) (fun _ => ?_)
  refine v_ico (v := 1) X dL_act_141 (by decide) ?_
  refine v_goto (tgt := 146) X dL_act_142 (by decide) ?_
  rw [← hQ]
  exact (v_zret X hr hlk dL_act_146 rfl ⟨rfl, rfl, fun _ _ _ => rfl, clT h S, ra, le, g0, rfl, rfl, ⟨hoT, ⟨hdb.1.qf rfl rfl rfl, cons_h hdb.2 rfl (fun i => va_o (upd_n _ _ (by decide)) i) (fun i => va_o (upd_n _ _ (by decide)) i) rfl⟩, hwk, hd, hB.to (Nat.le_refl _) (Nat.le_refl _)⟩, fun _ _ => rfl⟩).wd (by decide) (by decide)
set_option maxRecDepth 100000 in
set_option maxHeartbeats 4000000 in
theorem v_a4 (X : vCx p s m A c cL_act RL 14 z0 D cy) (hr : meth.sig.returnType = some .boolean) (hlk : meth.locks = false) (hQ : MQ below (QcR z0 D (PA cy n ad S d)) A s 1 2 (fun q => z0 ≤ q) = Q) (hn : n = 97 + sN S + sP S) (hI : IJ cy ad S ra le g0 d) (hh : h < sN S) : vV p l e { frames := 14, cells := 1, slots := 2, locals := 300 } s m A below meth c 14 z0 D 0 0 Q n ad (jW cy ad S S ra le g0) 241 [some (.ref (ad 0)), some (.ref (ad 54)), some (.int x), some (.int (nI (sN S))), some (.int (nI h)), some (.ref (ad (97 + h))), none, none, none, none, none, none, none, none] [] := by
  obtain ⟨ho, hdb, hwk, hd, hB⟩ := id hI
  have hN10 := ho.1
  have hnone : ∀ o : Int32, vV p l e { frames := 14, cells := 1, slots := 2, locals := 300 } s m A below meth c 14 z0 D 0 0 Q n ad (jW cy ad S S ra le g0) 277 [some (.ref (ad 0)), some (.ref (ad 54)), some (.int x), some (.int (nI (sN S))), some (.int (nI h)), some (.ref (ad (97 + h))), none, none, none, none, some (.int o), none, none, none] [] := by
    intro o
    refine v_ico (v := 1) X dL_act_277 (by decide) ?_
    rw [← hQ]
    exact (v_zret X hr hlk dL_act_278 rfl ⟨rfl, rfl, fun _ _ _ => rfl, S, ra, le, g0, rfl, rfl, ⟨ho, hdb, hwk, hd, hB.to (Nat.le_refl _) (Nat.le_refl _)⟩, fun _ _ => rfl⟩).wd (by decide) (by decide)
  have hset : ∀ (kk : Nat) (o : Int32), kk ≤ 10 → Ter (sN S) (sH S) kk o → thru kk (sH S) o (nI h) = false → (o = -1 ∨ hasB (sN S) o = 1) → nI h ≠ o → vV p l e { frames := 14, cells := 1, slots := 2, locals := 300 } s m A below meth c 14 z0 D 0 0 Q n ad (jW cy ad S S ra le g0) 279 [some (.ref (ad 0)), some (.ref (ad 54)), some (.int x), some (.int (nI (sN S))), some (.int (nI h)), some (.ref (ad (97 + h))), none, none, none, none, some (.int o), none, none, none] [] := by
    intro kk o hkk ht h4 h2 h3
    obtain ⟨hc1, hc2⟩ := chT_ok (h := h) ho hh ht h4
    refine v_aload X dL_act_279 rfl ?_
    refine v_iload X dL_act_281 rfl ?_
    refine pf_L_47 X dL_act_283 (jS_hh ho (Nat.le_of_eq hn.symm) hh) ?_
    refine vV.gg (jS_upH (f := upd (sH S h) 6 o) ho hh) ?_
    show vV p l e { frames := 14, cells := 1, slots := 2, locals := 300 } s m A below meth c 14 z0 D 0 0 Q n ad (jW cy ad S (chT h o S) ra le g0) 286 [some (.ref (ad 0)), some (.ref (ad 54)), some (.int x), some (.int (nI (sN S))), some (.int (nI h)), some (.ref (ad (97 + h))), none, none, none, none, some (.int o), none, none, none] []
    refine v_aload0 X dL_act_286 rfl ?_
    refine v_iload X dL_act_287 rfl ?_
    refine v_iload X dL_act_289 rfl ?_
    refine cd_L_53 X dL_act_291 (c_chain l (hB.R (by omega)) ho hh h2 h3 ht h4 hc1 hc2) (jS_r hB (by omega)) rfl (Nat.le_of_ble_eq_true rfl) ⟨(by first | exact Nat.le_of_ble_eq_true rfl | (show k1 + 1 + 1 ≤ 14; omega) | (show 8 + (3 + 11) + 22 * (k1 + 1) ≤ 300; omega) | (show kk + 1 + 1 ≤ 14; omega) | (show 8 + (2 + 11) + (40 + 21 * kk) ≤ 300; omega)), (by first | exact Nat.le_of_ble_eq_true rfl | (show k1 + 1 + 1 ≤ 14; omega) | (show 8 + (3 + 11) + 22 * (k1 + 1) ≤ 300; omega) | (show kk + 1 + 1 ≤ 14; omega) | (show 8 + (2 + 11) + (40 + 21 * kk) ≤ 300; omega)), (Nat.le_of_ble_eq_true rfl), (Nat.le_of_ble_eq_true rfl)⟩ ?_
    show vV p l e { frames := 14, cells := 1, slots := 2, locals := 300 } s m A below meth c 14 z0 D 0 0 Q n ad (jW cy ad (chT h o S) (chT h o S) ra le g0) 294 [some (.ref (ad 0)), some (.ref (ad 54)), some (.int x), some (.int (nI (sN S))), some (.int (nI h)), some (.ref (ad (97 + h))), none, none, none, none, some (.int o), none, none, none] [.int (nI kk)]
    refine v_aload1 X dL_act_294 rfl ?_
    refine v_iload X dL_act_295 rfl ?_
    refine cd_L_56 X dL_act_297 (j_behind l hc1 (Nat.le_of_eq hn.symm) ho.1 hc2) (jS_s hc1 (Nat.le_of_eq hn.symm)) rfl (Nat.le_of_ble_eq_true rfl) ⟨(by first | exact Nat.le_of_ble_eq_true rfl | (show k1 + 1 + 1 ≤ 14; omega) | (show 8 + (3 + 11) + 22 * (k1 + 1) ≤ 300; omega) | (show kk + 1 + 1 ≤ 14; omega) | (show 8 + (2 + 11) + (40 + 21 * kk) ≤ 300; omega)), (by first | exact Nat.le_of_ble_eq_true rfl | (show k1 + 1 + 1 ≤ 14; omega) | (show 8 + (3 + 11) + 22 * (k1 + 1) ≤ 300; omega) | (show kk + 1 + 1 ≤ 14; omega) | (show 8 + (2 + 11) + (40 + 21 * kk) ≤ 300; omega)), (Nat.le_of_ble_eq_true rfl), (Nat.le_of_ble_eq_true rfl)⟩ ?_
    refine v_icmp_ne (tgt := 307) X dL_act_300 (by decide) (fun hc => absurd rfl hc) (fun _ => ?_)
    refine v_ico (v := 1) X dL_act_303 (by decide) ?_
    refine v_goto (tgt := 308) X dL_act_304 (by decide) ?_
    rw [← hQ]
    exact (v_zret X hr hlk dL_act_308 rfl ⟨rfl, rfl, fun _ _ _ => rfl, chT h o S, ra, le, g0, rfl, rfl, ⟨hc1, ⟨hdb.1.qf rfl rfl rfl, cons_h hdb.2 rfl (fun i => va_o (upd_n _ _ (by decide)) i) (fun i => va_o (upd_n _ _ (by decide)) i) rfl⟩, hwk, hd, hB.to (Nat.le_refl _) (Nat.le_refl _)⟩, fun _ _ => rfl⟩).wd (by decide) (by decide)
  refine v_iload2 X dL_act_241 rfl ?_
  refine v_ico (v := 3) X dL_act_242 (by decide) ?_
  refine v_ishr X dL_act_243 ?_
  refine v_iload3 X dL_act_244 rfl ?_
  refine v_ico (v := 1) X dL_act_245 (by decide) ?_
  refine v_iadd X dL_act_246 ?_
  refine v_below X dL_act_247 (N := sN S + 1) (nI_1 _) (by omega) (by omega) (Nat.le_of_ble_eq_true rfl) ⟨(by first | exact Nat.le_of_ble_eq_true rfl | (show k1 + 1 + 1 ≤ 14; omega) | (show 8 + (3 + 11) + 22 * (k1 + 1) ≤ 300; omega) | (show kk + 1 + 1 ≤ 14; omega) | (show 8 + (2 + 11) + (40 + 21 * kk) ≤ 300; omega)), (by first | exact Nat.le_of_ble_eq_true rfl | (show k1 + 1 + 1 ≤ 14; omega) | (show 8 + (3 + 11) + 22 * (k1 + 1) ≤ 300; omega) | (show kk + 1 + 1 ≤ 14; omega) | (show 8 + (2 + 11) + (40 + 21 * kk) ≤ 300; omega)), (Nat.le_of_ble_eq_true rfl), (Nat.le_of_ble_eq_true rfl)⟩ ?_
  generalize hbv : bel (x >>> (3 &&& 31)) (sN S + 1) = b
  have hb : b < sN S + 1 := by rw [← hbv]; exact bel_lt _ (by omega)
  rcases b with _ | j1
  · refine v_ico (v := 1) X dL_act_250 (by decide) ?_
    refine v_isub X dL_act_251 ?_
    refine vV.top (w := .int (-1)) (by rfl) ?_
    refine v_istore10 X rfl (Nat.le_of_ble_eq_true rfl) dL_act_252 ?_
    refine v_iload X dL_act_254 rfl ?_
    refine v_iload X dL_act_256 rfl ?_
    refine v_icmp_eq (tgt := 277) X dL_act_258 (by decide) (fun h1 => ?_) (fun h1 => ?_)
    · exact hnone _
    refine v_iload X dL_act_261 rfl ?_
    refine v_if_lt (tgt := 279) X dL_act_263 (by decide) (fun h5 => ?_) (fun h5 => ?_)
    · exact hset 0 (-1) (by omega) rfl rfl (Or.inl rfl) (fun q => h1 q.symm)
    · exact absurd (by decide) h5
  · refine v_ico (v := 1) X dL_act_250 (by decide) ?_
    refine v_isub X dL_act_251 ?_
    refine vV.top (congrArg Value.int (nI_pred j1)) ?_
    refine v_istore10 X rfl (Nat.le_of_ble_eq_true rfl) dL_act_252 ?_
    refine v_iload X dL_act_254 rfl ?_
    refine v_iload X dL_act_256 rfl ?_
    refine v_icmp_eq (tgt := 277) X dL_act_258 (by decide) (fun h1 => ?_) (fun h1 => ?_)
    · exact hnone _
    refine v_iload X dL_act_261 rfl ?_
    refine v_if_lt (tgt := 279) X dL_act_263 (by decide) (fun h5 => ?_) (fun h5 => ?_)
    · exact absurd h5 (nI_pos (by omega))
    have hj : j1 < sN S := by omega
    obtain ⟨k1, hj2⟩ := ho.2.2.2.2 j1 hj
    have hk1 : k1 + 1 ≤ 10 := by
      have t1 : Ter (sN S) (sH S) (k1 + 1) (nI j1) := ⟨j1, hj, rfl, hj2⟩
      have := t1.le ho.1
      omega
    refine v_aload1 X dL_act_266 rfl ?_
    refine v_iload X dL_act_267 rfl ?_
    refine v_iload X dL_act_269 rfl ?_
    refine cd_L_39 X dL_act_271 (j_leads l ho (Nat.le_of_eq hn.symm) ho.1 k1 j1 hj hj2) (jS_s ho (Nat.le_of_eq hn.symm)) rfl (Nat.le_of_ble_eq_true rfl) ⟨(by first | exact Nat.le_of_ble_eq_true rfl | (show k1 + 1 + 1 ≤ 14; omega) | (show 8 + (3 + 11) + 22 * (k1 + 1) ≤ 300; omega) | (show kk + 1 + 1 ≤ 14; omega) | (show 8 + (2 + 11) + (40 + 21 * kk) ≤ 300; omega)), (by first | exact Nat.le_of_ble_eq_true rfl | (show k1 + 1 + 1 ≤ 14; omega) | (show 8 + (3 + 11) + 22 * (k1 + 1) ≤ 300; omega) | (show kk + 1 + 1 ≤ 14; omega) | (show 8 + (2 + 11) + (40 + 21 * kk) ≤ 300; omega)), (Nat.le_of_ble_eq_true rfl), (Nat.le_of_ble_eq_true rfl)⟩ ?_
    generalize hbb : thru (k1 + 1) (sH S) (nI j1) (nI h) = bb
    refine v_if_eq (tgt := 279) X dL_act_274 (by decide) (fun h6 => ?_) (fun h6 => ?_)
    · refine hset (k1 + 1) (nI j1) hk1 ⟨j1, hj, rfl, hj2⟩ ?_ (Or.inr (hasB_1 hj (by omega))) (fun q => h1 q.symm)
      rw [hbb]
      cases bb with
      | false => rfl
      | true => exact absurd h6 (by decide)
    · exact hnone _
set_option maxRecDepth 100000 in
set_option maxHeartbeats 4000000 in
theorem v_a5 (X : vCx p s m A c cL_act RL 14 z0 D cy) (hr : meth.sig.returnType = some .boolean) (hlk : meth.locks = false) (hQ : MQ below (QcR z0 D (PA cy n ad S d)) A s 1 2 (fun q => z0 ≤ q) = Q) (hn : n = 97 + sN S + sP S) (hI : IJ cy ad S ra le g0 d) (hh : h < sN S) : vV p l e { frames := 14, cells := 1, slots := 2, locals := 300 } s m A below meth c 14 z0 D 0 0 Q n ad (jW cy ad S S ra le g0) 309 [some (.ref (ad 0)), some (.ref (ad 54)), some (.int x), some (.int (nI (sN S))), some (.int (nI h)), some (.ref (ad (97 + h))), none, none, none, none, none, none, none, none] [] := by
  obtain ⟨ho, hdb, hwk, hd, hB⟩ := id hI
  refine v_aload X dL_act_309 rfl ?_
  refine gf_L_88 X dL_act_311 (jS_hh ho (Nat.le_of_eq hn.symm) hh) ?_
  refine v_istore11 X rfl (Nat.le_of_ble_eq_true rfl) dL_act_314 ?_
  refine v_aload X dL_act_316 rfl ?_
  refine v_iload2 X dL_act_318 rfl ?_
  refine v_ico (v := 4) X dL_act_319 (by decide) ?_
  refine v_ishr X dL_act_320 ?_
  refine v_bip (v := 10) X dL_act_321 (by decide) ?_
  refine v_below X dL_act_323 (N := 10) rfl (by omega) (by omega) (Nat.le_of_ble_eq_true rfl) ⟨(Nat.le_of_ble_eq_true rfl), (Nat.le_of_ble_eq_true rfl), (Nat.le_of_ble_eq_true rfl), (Nat.le_of_ble_eq_true rfl)⟩ ?_
  generalize hb : bel (x >>> (4 &&& 31)) 10 = b
  have hb5 : b < 10 := by rw [← hb]; exact bel_lt _ (by omega)
  have iw : IN (nI b) 0 9 := IN_0 (b := 9) (by omega) (by omega)
  have hoT : ok (peT h (nI b) S) := peT_ok ho iw
  have hh3 : vAt n (jW cy ad S (peT h (nI b) S) ra le g0) (97 + h) (cL (upd (sH S h) 3 (nI b))) := by
    have q := jS_hh (cy := cy) (ad := ad) (S := S) (T := peT h (nI b) S) (ra := ra) (le := le) (g0 := g0) ho (Nat.le_of_eq hn.symm) (i := h) hh
    have e : sH (peT h (nI b) S) h = upd (sH S h) 3 (nI b) := va_up_self _ _ _
    rwa [e] at q
  refine pf_L_88 X dL_act_326 (jS_hh ho (Nat.le_of_eq hn.symm) hh) ?_
  refine vV.gg (jS_upH (f := upd (sH S h) 3 (nI b)) ho hh) ?_
  show vV p l e { frames := 14, cells := 1, slots := 2, locals := 300 } s m A below meth c 14 z0 D 0 0 Q n ad (jW cy ad S (peT h (nI b) S) ra le g0) 329 [some (.ref (ad 0)), some (.ref (ad 54)), some (.int x), some (.int (nI (sN S))), some (.int (nI h)), some (.ref (ad (97 + h))), none, none, none, none, none, some (.int (sH S h 3)), none, none] []
  refine v_aload0 X dL_act_329 rfl ?_
  refine v_iload X dL_act_330 rfl ?_
  refine v_aload X dL_act_332 rfl ?_
  refine gf_L_88 X dL_act_334 hh3 ?_
  refine vV.top (w := .int (nI b)) rfl ?_
  refine cd_L_91 X dL_act_337 (c_setPeople l (hB.R (by omega)) ho hh iw) (jS_r hB (by omega)) rfl (Nat.le_of_ble_eq_true rfl) ⟨(Nat.le_of_ble_eq_true rfl), (Nat.le_of_ble_eq_true rfl), (Nat.le_of_ble_eq_true rfl), (Nat.le_of_ble_eq_true rfl)⟩ ?_
  refine v_iload X dL_act_340 rfl ?_
  refine v_icmp_ne (tgt := 349) X dL_act_342 (by decide) (fun hc => absurd rfl hc) (fun _ => ?_)
  refine v_ico (v := 1) X dL_act_345 (by decide) ?_
  refine v_goto (tgt := 350) X dL_act_346 (by decide) ?_
  rw [← hQ]
  exact (v_zret X hr hlk dL_act_350 rfl ⟨rfl, rfl, fun _ _ _ => rfl, peT h (nI b) S, ra, le, g0, rfl, rfl, ⟨hoT, ⟨hdb.1.qf rfl rfl rfl, cons_h hdb.2 rfl (fun i => va_o (upd_n _ _ (by decide)) i) (fun i => va_o (upd_n _ _ (by decide)) i) rfl⟩, hwk, hd, hB.to (Nat.le_refl _) (Nat.le_refl _)⟩, fun _ _ => rfl⟩).wd (by decide) (by decide)
end AC
