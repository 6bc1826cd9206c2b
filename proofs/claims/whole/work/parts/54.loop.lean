/-! the calls that cannot throw, and the loop -/
theorem Inv.at0 {cy : Nat → ClassId} {ad : Nat → Nat} {d : Nat} {th : Int32} {g : Nat → va_E} (h : Inv cy ad d th g) : vAt 62 g 0 (.inr (4, [.ref (ad 1), .ref (ad 4), .ref (ad 29)])) := by
  obtain ⟨S, ra, le, g0, d0, ho, -, -, -, -, hb, rfl⟩ := h
  rw [gM_gV ho]
  exact ((hb.gM (th := th) (ra2 := ra) (le2 := le) (T := S)).1.v).2
theorem Inv.drought {l : Launch} {z0 : Nat} {D : va_G} {cy : Nat → ClassId} {ad : Nat → Nat} {d : Nat} {th : Int32} {g : Nat → va_E} (h : Inv cy ad d th g) : ∃ v g2, Ct0 l yX4_drought cX4_drought 1 (some FieldType.int) 2 63 z0 D cy 62 ad g [.ref (ad 0)] (some (.int v)) g ∧ Ct0 l yX5_drought cX5_drought 4 (some FieldType.int) 1 40 z0 D cy 62 ad g [.ref (ad 54)] (some (.int v)) g2 ∧ Inv cy ad d 0 g2 := by
  obtain ⟨S, ra, le, g0, d0, ho, hdb, hwk, hd, hd0, hb, rfl⟩ := h
  have hb' := hb.gM (th := th) (ra2 := ra) (le2 := le) (T := S)
  refine ⟨drM ra, _, ?_, m_drought l (by decide), ⟨S, ra, le, g0, d0, ho, hdb, hwk, hd, hd0, hb, rfl⟩⟩
  rw [gM_gV ho]
  exact (c_drought l hb'.1 hb'.2.1).to (by rw [dry_eq hwk]) rfl
theorem Inv.full {l : Launch} {z0 : Nat} {D : va_G} {cy : Nat → ClassId} {ad : Nat → Nat} {d : Nat} {th : Int32} {g : Nat → va_E} (h : Inv cy ad d th g) : ∃ v g2, Ct0 l yX4_full cX4_full 2 (some FieldType.double) 1 22 z0 D cy 62 ad g [.ref (ad 0)] (some (.double v)) g ∧ Ct0 l yX5_full cX5_full 1 (some FieldType.double) 2 45 z0 D cy 62 ad g [.ref (ad 54)] (some (.double v)) g2 ∧ Inv cy ad d 0 g2 := by
  obtain ⟨S, ra, le, g0, d0, ho, hdb, hwk, hd, hd0, hb, rfl⟩ := h
  have hb' := hb.gM (th := th) (ra2 := ra) (le2 := le) (T := S)
  refine ⟨fullA S, _, ?_, m_full l (by decide) ho, ⟨S, ra, le, g0, d0, ho, hdb, hwk, hd, hd0, hb, rfl⟩⟩
  rw [gM_gV ho]
  exact c_full l hb'.1 ho
theorem Inv.digest {l : Launch} {z0 : Nat} {D : va_G} {cy : Nat → ClassId} {ad : Nat → Nat} {d : Nat} {th : Int32} {g : Nat → va_E} (h : Inv cy ad d th g) : ∃ v g2, Ct0 l yX4_digest cX4_digest 4 (some FieldType.long) 3 72 z0 D cy 62 ad g [.ref (ad 0)] (some (.long v)) g ∧ Ct0 l yX5_digest cX5_digest 5 (some FieldType.long) 3 68 z0 D cy 62 ad g [.ref (ad 54)] (some (.long v)) g2 ∧ Inv cy ad d 0 g2 := by
  obtain ⟨S, ra, le, g0, d0, ho, hdb, hwk, hd, hd0, hb, rfl⟩ := h
  have hb' := hb.gM (th := th) (ra2 := ra) (le2 := le) (T := S)
  refine ⟨digA ra le S, _, ?_, m_digest l (by decide) ho (hdb.I ho), ⟨S, ra, le, g0, d0, ho, hdb, hwk, hd, hd0, hb, rfl⟩⟩
  rw [gM_gV ho]
  exact c_digest l hb'.1 ho hb'.2.1
set_option maxRecDepth 100000 in
set_option maxHeartbeats 4000000 in
theorem lc_drought (l : Launch) (hst : l.stackTraces = false) {p : Program} {e : Env} {s : State} {m : MethodId} {args : Array Value} {below : List Frame} {meth : Method} {c : Code} {cells slots : Nat} {Q : State → Prop} {z0 b Ls t d : Nat} {xs : Nat → Int32} {D : va_G} {cy : Nat → ClassId} {ad : Nat → Nat} {th : Int32} {g : Nat → va_E} (X : vCx p s m args c cL_law RL 9 z0 D cy) (hX : va_X b Ls xs s s.heap) (hbl : b < s.heap.size) (hz : ¬ z0 ≤ b) (ht : 5 * t + 5 ≤ Ls) (hLs : Ls ≤ 2560) (hI : Inv cy ad d th g) (hdd : d ≤ 1000000) (hc : cells + 96 ≤ 652942) (hs : slots + 635 ≤ 7137278) (kk : ∀ th' g', Inv cy ad (d + 100) th' g' → vV p l e room_1 s m args below meth c 9 z0 D (cells + 96) (slots + 635) Q 62 ad g' 1427 [some (.ref b), some (.ref (ad 0)), some (.ref (ad 54)), some (.ref (ad 61)), some (.int (nI (5 * t))), none, none, none, none] []) : vV p l e room_1 s m args below meth c 9 z0 D cells slots Q 62 ad g 1359 [some (.ref b), some (.ref (ad 0)), some (.ref (ad 54)), some (.ref (ad 61)), some (.int (nI (5 * t))), none, none, none, none] [] := by
  obtain ⟨v, g2, hC, hM, hI2⟩ := hI.drought (l := l) (z0 := z0) (D := D)
  obtain ⟨e3, fs3, he3, he4⟩ := hI.at54
  refine v_aload1 X dL_law_1359 rfl ?_
  refine cd_L_143 X dL_law_1360 hC hI.at0 rfl (Nat.le_of_ble_eq_true rfl) ⟨(Nat.le_of_ble_eq_true rfl), (Nat.le_of_ble_eq_true rfl), by show cells ≤ 652942; omega, by show slots ≤ 7137278; omega⟩ ?_
  refine v_aload2 X dL_law_1363 rfl ?_
  refine cd_L_146 X dL_law_1364 hM he3 he4 (Nat.le_of_ble_eq_true rfl) ⟨(Nat.le_of_ble_eq_true rfl), (Nat.le_of_ble_eq_true rfl), by show cells ≤ 652942; omega, by show slots ≤ 7137278; omega⟩ ?_
  refine v_icmp_eq (tgt := 1427) X dL_law_1367 (by decide) (fun _ => ?_) (fun hc => absurd rfl hc)
  exact (kk 0 g2 (hI2.more (by omega))).wd (by omega) (by omega)
set_option maxRecDepth 100000 in
set_option maxHeartbeats 4000000 in
theorem lc_full (l : Launch) (hst : l.stackTraces = false) {p : Program} {e : Env} {s : State} {m : MethodId} {args : Array Value} {below : List Frame} {meth : Method} {c : Code} {cells slots : Nat} {Q : State → Prop} {z0 b Ls t d : Nat} {xs : Nat → Int32} {D : va_G} {cy : Nat → ClassId} {ad : Nat → Nat} {th : Int32} {g : Nat → va_E} (X : vCx p s m args c cL_law RL 9 z0 D cy) (hX : va_X b Ls xs s s.heap) (hbl : b < s.heap.size) (hz : ¬ z0 ≤ b) (ht : 5 * t + 5 ≤ Ls) (hLs : Ls ≤ 2560) (hI : Inv cy ad d th g) (hdd : d ≤ 1000000) (hc : cells + 96 ≤ 652942) (hs : slots + 635 ≤ 7137278) (kk : ∀ th' g', Inv cy ad (d + 100) th' g' → vV p l e room_1 s m args below meth c 9 z0 D (cells + 96) (slots + 635) Q 62 ad g' 1427 [some (.ref b), some (.ref (ad 0)), some (.ref (ad 54)), some (.ref (ad 61)), some (.int (nI (5 * t))), none, none, none, none] []) : vV p l e room_1 s m args below meth c 9 z0 D cells slots Q 62 ad g 1372 [some (.ref b), some (.ref (ad 0)), some (.ref (ad 54)), some (.ref (ad 61)), some (.int (nI (5 * t))), none, none, none, none] [] := by
  obtain ⟨v, g2, hC, hM, hI2⟩ := hI.full (l := l) (z0 := z0) (D := D)
  obtain ⟨e3, fs3, he3, he4⟩ := hI.at54
  refine v_aload1 X dL_law_1372 rfl ?_
  refine cd_L_147 X dL_law_1373 hC hI.at0 rfl (Nat.le_of_ble_eq_true rfl) ⟨(Nat.le_of_ble_eq_true rfl), (Nat.le_of_ble_eq_true rfl), by show cells ≤ 652942; omega, by show slots ≤ 7137278; omega⟩ ?_
  refine v_dstore5 X rfl (Nat.le_of_ble_eq_true rfl) dL_law_1376 ?_
  refine v_aload2 X dL_law_1378 rfl ?_
  refine cd_L_151 X dL_law_1379 hM he3 he4 (Nat.le_of_ble_eq_true rfl) ⟨(Nat.le_of_ble_eq_true rfl), (Nat.le_of_ble_eq_true rfl), by show cells ≤ 652942; omega, by show slots ≤ 7137278; omega⟩ ?_
  refine v_dstore7 X rfl (Nat.le_of_ble_eq_true rfl) dL_law_1382 ?_
  have hend : vV p l e room_1 s m args below meth c 9 z0 D cells slots Q 62 ad g2 1410 [some (.ref b), some (.ref (ad 0)), some (.ref (ad 54)), some (.ref (ad 61)), some (.int (nI (5 * t))), some (.double v), none, some (.double v), none] [] := by
    refine v_goto (tgt := 1427) X dL_law_1410 (by decide) ?_
    exact vV.le (A := [some (.ref b), some (.ref (ad 0)), some (.ref (ad 54)), some (.ref (ad 61)), some (.int (nI (5 * t))), none, none, none, none]) ⟨rfl, rfl, rfl, rfl, rfl, trivial⟩ ((kk 0 g2 (hI2.more (by omega))).wd (by omega) (by omega))
  refine v_dload X dL_law_1384 rfl ?_
  refine v_dload X dL_law_1386 rfl ?_
  refine v_dcmp X dL_law_1388 ?_
  refine v_if_eq (tgt := 1410) X dL_law_1389 (by decide) (fun _ => hend) (fun hn => ?_)
  refine v_dload X dL_law_1392 rfl ?_
  refine v_dload X dL_law_1394 rfl ?_
  refine v_dcmp X dL_law_1396 ?_
  refine v_if_eq (tgt := 1408) X dL_law_1397 (by decide) (fun hc => absurd hc hn) (fun _ => ?_)
  refine v_dload X dL_law_1400 rfl ?_
  refine v_dload X dL_law_1402 rfl ?_
  refine v_dcmp X dL_law_1404 ?_
  exact v_if_ne (tgt := 1410) X dL_law_1405 (by decide) (fun _ => hend) (fun hc => absurd hc hn)
set_option maxRecDepth 100000 in
set_option maxHeartbeats 4000000 in
theorem lc_digest (l : Launch) (hst : l.stackTraces = false) {p : Program} {e : Env} {s : State} {m : MethodId} {args : Array Value} {below : List Frame} {meth : Method} {c : Code} {cells slots : Nat} {Q : State → Prop} {z0 b Ls t d : Nat} {xs : Nat → Int32} {D : va_G} {cy : Nat → ClassId} {ad : Nat → Nat} {th : Int32} {g : Nat → va_E} (X : vCx p s m args c cL_law RL 9 z0 D cy) (hX : va_X b Ls xs s s.heap) (hbl : b < s.heap.size) (hz : ¬ z0 ≤ b) (ht : 5 * t + 5 ≤ Ls) (hLs : Ls ≤ 2560) (hI : Inv cy ad d th g) (hdd : d ≤ 1000000) (hc : cells + 96 ≤ 652942) (hs : slots + 635 ≤ 7137278) (kk : ∀ th' g', Inv cy ad (d + 100) th' g' → vV p l e room_1 s m args below meth c 9 z0 D (cells + 96) (slots + 635) Q 62 ad g' 1427 [some (.ref b), some (.ref (ad 0)), some (.ref (ad 54)), some (.ref (ad 61)), some (.int (nI (5 * t))), none, none, none, none] []) : vV p l e room_1 s m args below meth c 9 z0 D cells slots Q 62 ad g 1413 [some (.ref b), some (.ref (ad 0)), some (.ref (ad 54)), some (.ref (ad 61)), some (.int (nI (5 * t))), none, none, none, none] [] := by
  obtain ⟨v, g2, hC, hM, hI2⟩ := hI.digest (l := l) (z0 := z0) (D := D)
  obtain ⟨e3, fs3, he3, he4⟩ := hI.at54
  refine v_aload1 X dL_law_1413 rfl ?_
  refine cd_L_152 X dL_law_1414 hC hI.at0 rfl (Nat.le_of_ble_eq_true rfl) ⟨(Nat.le_of_ble_eq_true rfl), (Nat.le_of_ble_eq_true rfl), by show cells ≤ 652942; omega, by show slots ≤ 7137278; omega⟩ ?_
  refine v_aload2 X dL_law_1417 rfl ?_
  refine cd_L_156 X dL_law_1418 hM he3 he4 (Nat.le_of_ble_eq_true rfl) ⟨(Nat.le_of_ble_eq_true rfl), (Nat.le_of_ble_eq_true rfl), by show cells ≤ 652942; omega, by show slots ≤ 7137278; omega⟩ ?_
  refine v_lcmpE X rfl dL_law_1421 ?_
  refine v_if_eq (tgt := 1427) X dL_law_1422 (by decide) (fun _ => ?_) (fun hc => absurd rfl hc)
  exact (kk 0 g2 (hI2.more (by omega))).wd (by omega) (by omega)
theorem and31 (x : Int32) : ∃ j : Nat, j ≤ 31 ∧ x &&& 31 = nI j := by
  refine ⟨(x.toBitVec &&& 31#32).toNat, ?_, ?_⟩
  · rw [BitVec.toNat_and]
    exact Nat.and_le_right
  · apply Int32.toBitVec_inj.mp
    show x.toBitVec &&& 31#32 = BitVec.ofNat 32 _
    rw [BitVec.ofNat_toNat, BitVec.setWidth_eq]
set_option maxRecDepth 100000 in
set_option maxHeartbeats 8000000 in
theorem law_round (l : Launch) (hst : l.stackTraces = false) {p : Program} {e : Env} {s : State} {m : MethodId} {args : Array Value} {below : List Frame} {meth : Method} {c : Code} {cells slots : Nat} {Q : State → Prop} {z0 b Ls t d : Nat} {xs : Nat → Int32} {D : va_G} {cy : Nat → ClassId} {ad : Nat → Nat} {th : Int32} {g : Nat → va_E} (X : vCx p s m args c cL_law RL 9 z0 D cy) (hX : va_X b Ls xs s s.heap) (hbl : b < s.heap.size) (hz : ¬ z0 ≤ b) (ht : 5 * t + 5 ≤ Ls) (hLs : Ls ≤ 2560) (hI : Inv cy ad d th g) (hdd : d ≤ 1000000) (hc : cells + 96 ≤ 652942) (hs : slots + 635 ≤ 7137278) (kk : ∀ th' g', Inv cy ad (d + 100) th' g' → vV p l e room_1 s m args below meth c 9 z0 D (cells + 96) (slots + 635) Q 62 ad g' 1427 [some (.ref b), some (.ref (ad 0)), some (.ref (ad 54)), some (.ref (ad 61)), some (.int (nI (5 * t))), none, none, none, none] []) : vV p l e room_1 s m args below meth c 9 z0 D cells slots Q 62 ad g 32 [some (.ref b), some (.ref (ad 0)), some (.ref (ad 54)), some (.ref (ad 61)), some (.int (nI (5 * t))), none, none, none, none] [] := by
  refine v_aload0 X dL_law_32 rfl ?_
  refine v_iload X dL_law_33 rfl ?_
  refine v_sld X hX hbl hz dL_law_35 rfl (by omega) (by omega) ?_
  refine v_bip (v := 31) X dL_law_36 (by decide) ?_
  refine v_iand X dL_law_38 ?_
  obtain ⟨j, hj, ej⟩ := and31 (xs (5 * t))
  refine vV.top (congrArg Value.int ej) ?_
  have hdef : vV p l e room_1 s m args below meth c 9 z0 D cells slots Q 62 ad g 1427 [some (.ref b), some (.ref (ad 0)), some (.ref (ad 54)), some (.ref (ad 61)), some (.int (nI (5 * t))), none, none, none, none] [] := kk th g (hI.more (by omega)) |>.wd (by omega) (by omega)
  by_cases c0 : j = 0
  · subst c0
    refine v_tabIn (off := 97) (tgt := 136) X dL_law_39 (by decide) (by decide) (by decide) (by decide) ?_
    exact lc_setWeather l hst X hX hbl hz ht hLs hI hdd hc hs kk
  by_cases c1 : j = 1
  · subst c1
    refine v_tabIn (off := 177) (tgt := 216) X dL_law_39 (by decide) (by decide) (by decide) (by decide) ?_
    exact lc_build l hst X hX hbl hz ht hLs hI hdd hc hs kk
  by_cases c2 : j = 2
  · subst c2
    refine v_tabIn (off := 269) (tgt := 308) X dL_law_39 (by decide) (by decide) (by decide) (by decide) ?_
    exact lc_chain l hst X hX hbl hz ht hLs hI hdd hc hs kk
  by_cases c3 : j = 3
  · subst c3
    refine v_tabIn (off := 337) (tgt := 376) X dL_law_39 (by decide) (by decide) (by decide) (by decide) ?_
    exact lc_lay l hst X hX hbl hz ht hLs hI hdd hc hs kk
  by_cases c4 : j = 4
  · subst c4
    refine v_tabIn (off := 417) (tgt := 456) X dL_law_39 (by decide) (by decide) (by decide) (by decide) ?_
    exact lc_turn l hst X hX hbl hz ht hLs hI hdd hc hs kk
  by_cases c5 : j = 5
  · subst c5
    refine v_tabIn (off := 508) (tgt := 547) X dL_law_39 (by decide) (by decide) (by decide) (by decide) ?_
    exact lc_clean l hst X hX hbl hz ht hLs hI hdd hc hs kk
  by_cases c6 : j = 6
  · subst c6
    refine v_tabIn (off := 564) (tgt := 603) X dL_law_39 (by decide) (by decide) (by decide) (by decide) ?_
    exact lc_cart l hst X hX hbl hz ht hLs hI hdd hc hs kk
  by_cases c7 : j = 7
  · subst c7
    refine v_tabIn (off := 632) (tgt := 671) X dL_law_39 (by decide) (by decide) (by decide) (by decide) ?_
    exact lc_setPeople l hst X hX hbl hz ht hLs hI hdd hc hs kk
  by_cases c8 : j = 8
  · subst c8
    refine v_tabIn (off := 700) (tgt := 739) X dL_law_39 (by decide) (by decide) (by decide) (by decide) ?_
    exact lc_house l hst X hX hbl hz ht hLs hI hdd hc hs kk
  by_cases c9 : j = 9
  · subst c9
    refine v_tabIn (off := 768) (tgt := 807) X dL_law_39 (by decide) (by decide) (by decide) (by decide) ?_
    exact lc_pipe l hst X hX hbl hz ht hLs hI hdd hc hs kk
  by_cases c10 : j = 10
  · subst c10
    refine v_tabIn (off := 836) (tgt := 875) X dL_law_39 (by decide) (by decide) (by decide) (by decide) ?_
    exact lc_owes l hst X hX hbl hz ht hLs hI hdd hc hs kk
  by_cases c11 : j = 11
  · subst c11
    refine v_tabIn (off := 904) (tgt := 943) X dL_law_39 (by decide) (by decide) (by decide) (by decide) ?_
    exact lc_pass l hst X hX hbl hz ht hLs hI hdd hc hs kk
  by_cases c12 : j = 12
  · subst c12
    refine v_tabIn (off := 960) (tgt := 999) X dL_law_39 (by decide) (by decide) (by decide) (by decide) ?_
    exact lc_count l hst X hX hbl hz ht hLs hI hdd hc hs kk
  by_cases c13 : j = 13
  · subst c13
    refine v_tabIn (off := 1016) (tgt := 1055) X dL_law_39 (by decide) (by decide) (by decide) (by decide) ?_
    exact lc_foresee l hst X hX hbl hz ht hLs hI hdd hc hs kk
  by_cases c14 : j = 14
  · subst c14
    refine v_tabIn (off := 1084) (tgt := 1123) X dL_law_39 (by decide) (by decide) (by decide) (by decide) ?_
    exact lc_lasts l hst X hX hbl hz ht hLs hI hdd hc hs kk
  by_cases c15 : j = 15
  · subst c15
    refine v_tabIn (off := 1140) (tgt := 1179) X dL_law_39 (by decide) (by decide) (by decide) (by decide) ?_
    exact lc_needs l hst X hX hbl hz ht hLs hI hdd hc hs kk
  by_cases c16 : j = 16
  · subst c16
    refine v_tabIn (off := 1208) (tgt := 1247) X dL_law_39 (by decide) (by decide) (by decide) (by decide) ?_
    exact lc_dirty l hst X hX hbl hz ht hLs hI hdd hc hs kk
  by_cases c17 : j = 17
  · subst c17
    refine v_tabIn (off := 1264) (tgt := 1303) X dL_law_39 (by decide) (by decide) (by decide) (by decide) ?_
    exact lc_advise l hst X hX hbl hz ht hLs hI hdd hc hs kk
  by_cases c18 : j = 18
  · subst c18
    refine v_tabIn (off := 1320) (tgt := 1359) X dL_law_39 (by decide) (by decide) (by decide) (by decide) ?_
    exact lc_drought l hst X hX hbl hz ht hLs hI hdd hc hs kk
  by_cases c19 : j = 19
  · subst c19
    refine v_tabIn (off := 1333) (tgt := 1372) X dL_law_39 (by decide) (by decide) (by decide) (by decide) ?_
    exact lc_full l hst X hX hbl hz ht hLs hI hdd hc hs kk
  by_cases c20 : j = 20
  · subst c20
    refine v_tabIn (off := 1374) (tgt := 1413) X dL_law_39 (by decide) (by decide) (by decide) (by decide) ?_
    exact lc_digest l hst X hX hbl hz ht hLs hI hdd hc hs kk
  refine v_tabOut (tgt := 1427) X dL_law_39 (Or.inr ?_) (by decide) hdef
  rw [nI_toInt (by omega)]
  omega
set_option maxRecDepth 100000 in
set_option maxHeartbeats 4000000 in
theorem law_loop (l : Launch) (hst : l.stackTraces = false) {p : Program} {e : Env} {s : State} {m : MethodId} {args : Array Value} {below : List Frame} {meth : Method} {c : Code} {Q : State → Prop} {z0 b Ls : Nat} {xs : Nat → Int32} {D : va_G} {cy : Nat → ClassId} {ad : Nat → Nat} (X : vCx p s m args c cL_law RL 9 z0 D cy) (hX : va_X b Ls xs s s.heap) (hbl : b < s.heap.size) (hz : ¬ z0 ≤ b) (hLs : Ls ≤ 2560) (hend : ∀ (t cells slots : Nat) (g : Nat → va_E), cells ≤ 652942 → slots ≤ 7137278 → vV p l e room_1 s m args below meth c 9 z0 D cells slots Q 62 ad g 1433 [some (.ref b), some (.ref (ad 0)), some (.ref (ad 54)), some (.ref (ad 61)), some (.int (nI (5 * t))), none, none, none, none] []) : ∀ (q t : Nat), q + t = 513 → ∀ (th : Int32) (g : Nat → va_E), Inv cy ad (100 * t) th g → vV p l e room_1 s m args below meth c 9 z0 D (62 + 96 * t) (800 + 635 * t) Q 62 ad g 23 [some (.ref b), some (.ref (ad 0)), some (.ref (ad 54)), some (.ref (ad 61)), some (.int (nI (5 * t))), none, none, none, none] [] := by
  have gt : ∀ t : Nat, t ≤ 513 → (nI Ls - 5 < nI (5 * t) ↔ Ls < 5 * t + 5) := fun t ht => by
    have c5 : (5 : Int32).toInt = 5 := by decide
    have e1 : (nI Ls).toInt = Ls := nI_toInt (by omega)
    rw [Int32.lt_iff_toInt_lt, subI (by rw [e1, c5]; omega) (by rw [e1, c5]; omega), e1, c5, nI_toInt (by omega)]
    omega
  intro q
  induction q with
  | zero =>
    intro t ht th g hI
    have : t = 513 := by omega
    subst this
    refine v_iload X dL_law_23 rfl ?_
    refine v_aload0 X dL_law_25 rfl ?_
    refine v_slen X hX hbl hz dL_law_26 ?_
    refine v_ico (v := 5) X dL_law_27 (by decide) ?_
    refine v_isub X dL_law_28 ?_
    refine v_icmp_gt (tgt := 1433) X dL_law_29 (by decide) (fun _ => ?_) (fun hc => absurd ((gt 513 (by omega)).mpr (by omega)) hc)
    exact hend 513 _ _ g (by omega) (by omega)
  | succ q ih =>
    intro t ht th g hI
    refine v_iload X dL_law_23 rfl ?_
    refine v_aload0 X dL_law_25 rfl ?_
    refine v_slen X hX hbl hz dL_law_26 ?_
    refine v_ico (v := 5) X dL_law_27 (by decide) ?_
    refine v_isub X dL_law_28 ?_
    refine v_icmp_gt (tgt := 1433) X dL_law_29 (by decide) (fun _ => hend t _ _ g (by omega) (by omega)) (fun hc => ?_)
    have hle : 5 * t + 5 ≤ Ls := Nat.not_lt.mp (fun q => hc ((gt t (by omega)).mpr q))
    refine law_round l hst X hX hbl hz hle hLs hI (by omega) (by omega) (by omega) (fun th' g' hI' => ?_)
    refine v_iinc4 (v := nI (5 * (t + 1))) X rfl (Nat.le_of_ble_eq_true rfl) dL_law_1427 (nI_add (5 * t) 5) ?_
    refine v_goto (tgt := 23) X dL_law_1430 (by decide) ?_
    exact (ih (t + 1) (by omega) th' g' (hI'.more (by omega))).wd (by omega) (by omega)
