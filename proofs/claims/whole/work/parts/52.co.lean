/-! the calls, one by one -/
theorem IN_nat {x : Int32} {H : Nat} (hH : H < 2 ^ 31) (h : IN x 0 (nI H)) : ∃ j, j ≤ H ∧ x = nI j := by
  have i := h.i
  rw [nI_toInt hH, Int32.toInt_zero] at i
  obtain ⟨j, j1, j2, j3⟩ := nI_self i.1 i.2 hH
  exact ⟨j, j1, j3⟩
theorem IN_nat1 {x : Int32} {H : Nat} (hH : H < 2 ^ 31) (h : IN x 1 (nI H)) : ∃ j, j ≤ H ∧ x = nI j := by
  have i := h.i
  have e1 : (1 : Int32).toInt = 1 := by decide
  rw [nI_toInt hH, e1] at i
  obtain ⟨j, j1, j2, j3⟩ := nI_self (by omega) i.2 hH
  exact ⟨j, j1, j3⟩
theorem db_tu {S : tS} {j : Nat} {b : Int32} (h : dbJ S) : dbJ (tuT j b S) := h.to rfl (fun p _ x y => by
  have e : ∀ w, w ≠ 3 → sQ (tuT j b S) p w = sQ S p w := fun w hw => by
    show va_up (sQ S) j (upd (sQ S j) 3 b) p w = _
    by_cases c : p = j
    · subst c; rw [va_up_self, upd_n _ _ hw]
    · rw [va_up_ne _ _ c]
  unfold debtF
  rw [e 0 (by decide), e 1 (by decide), e 5 (by decide)]) rfl
set_option maxRecDepth 100000 in
set_option maxHeartbeats 4000000 in
theorem co_setWeather (l : Launch) (hst : l.stackTraces = false) {z0 : Nat} {D : va_G} {cy : Nat → ClassId} {ad : Nat → Nat} {d : Nat} {th : Int32} {g : Nat → va_E} (hI : Inv cy ad d th g) (hdd : d ≤ 1000000) (a0 a1 a2 : Int32) : CO l yL_setWeather cL_setWeather 6 [(0, 12, 15, 13), (0, 12, 19, 15)] 8 144 yX5_setWeather cX5_setWeather 5 .int z0 D cy ad (d + 100) g [.ref (ad 0), .int a0, .int a1, .int a2, .ref (ad 61)] [.ref (ad 54), .int a0, .int a1, .int a2] := by
  obtain ⟨S, ra, le, g0, d0, ho, hdb, hwk, hd, hd0, hb, rfl⟩ := hI
  rw [gM_gV ho]
  have hb' := hb.gM (th := th) (ra2 := ra) (le2 := le) (T := S)
  have h0 := (RO.v (cy := cy) (S := S) hb'.1).2
  have hN := ho.1
  have hP := ho.2.1
  by_cases h1 : IN a0 0 27
  · obtain ⟨j, hj, rfl⟩ := IN_nat (H := 27) (by decide) h1
    by_cases h2 : IN a1 0 20 ∧ IN a2 0 3
    · exact CO.ret (S' := S) (fun q => by cases q) (ho) (hdb) (wok_set (j := j) hwk h2.1 h2.2) (hd) (by omega) (w_setWeather l h0 rfl (ct_G (c_setWeather l hb'.1 hb'.2.1 (by omega) h1 h2.1 h2.2) (gG.of (hb'.we _ _) (fun k _ _ => by rw [va_up_ne _ _ (by omega), va_up_ne _ _ (by omega)]))) (gG.out (ho))) ⟨rfl, rfl, Nat.le_of_ble_eq_true rfl, Nat.le_of_ble_eq_true rfl, Nat.le_of_ble_eq_true rfl, Nat.le_of_ble_eq_true rfl⟩ (fun h => m_setWeather l (Nat.le_of_ble_eq_true rfl) (by omega) h1 h2.1 h2.2)
    · exact CO.thr ho hdb hwk hd (by omega) hb (by decide) (w2_setWeather l h0 rfl (x2_setWeather l hst h1 h2)) ⟨Nat.le_of_ble_eq_true rfl, Nat.le_of_ble_eq_true rfl⟩ (fun h => mx2_setWeather l (Nat.le_of_ble_eq_true rfl) h1 h2)
  · exact CO.thr ho hdb hwk hd (by omega) hb (by decide) (w1_setWeather l h0 rfl (x1_setWeather l hst h1)) ⟨Nat.le_of_ble_eq_true rfl, Nat.le_of_ble_eq_true rfl⟩ (fun h => mx1_setWeather l (Nat.le_of_ble_eq_true rfl) h1)
set_option maxRecDepth 100000 in
set_option maxHeartbeats 4000000 in
theorem co_build (l : Launch) (hst : l.stackTraces = false) {z0 : Nat} {D : va_G} {cy : Nat → ClassId} {ad : Nat → Nat} {d : Nat} {th : Int32} {g : Nat → va_E} (hI : Inv cy ad d th g) (hdd : d ≤ 1000000) (a0 a1 a2 a3 : Int32) : CO l yL_build cL_build 7 [(0, 14, 17, 15), (0, 14, 21, 21)] 8 144 yX5_build cX5_build 6 .int z0 D cy ad (d + 100) g [.ref (ad 0), .int a0, .int a1, .int a2, .int a3, .ref (ad 61)] [.ref (ad 54), .int a0, .int a1, .int a2, .int a3] := by
  obtain ⟨S, ra, le, g0, d0, ho, hdb, hwk, hd, hd0, hb, rfl⟩ := hI
  rw [gM_gV ho]
  have hb' := hb.gM (th := th) (ra2 := ra) (le2 := le) (T := S)
  have h0 := (RO.v (cy := cy) (S := S) hb'.1).2
  have hN := ho.1
  have hP := ho.2.1
  by_cases h1 : IN a0 1 30 ∧ IN a1 10 900 ∧ IN a2 0 9 ∧ IN a3 0 20
  · obtain ⟨i1, i2, i3, i4⟩ := h1
    by_cases h2 : sN S = 10
    · exact CO.thr ho hdb hwk hd (by omega) hb (by decide) (w2_build l h0 rfl (x2_build l hst hb'.1 h2 i1 i2 i3 i4)) ⟨Nat.le_of_ble_eq_true rfl, Nat.le_of_ble_eq_true rfl⟩ (fun h => mx2_build l (Nat.le_of_ble_eq_true rfl) h2 i1 i2 i3 i4)
    · have h3 : sN S < 10 := by omega
      have hT := buildT_ok ho h3 i1 i2 i3 i4
      exact CO.ret (S' := buildT a0 a1 a2 a3 S) (fun q => by cases q) (hT) (hdb.qf rfl rfl rfl) (hwk) (hd) (by omega) (w_build l h0 rfl (ct_G (c_build l hb'.1 ho h3 ⟨by omega, hb'.2.2.2.1 _ (Nat.le_refl _) h3⟩ i1 i2 i3 i4) (gG.of (hb'.mono (Nat.le_succ _) (Nat.le_refl _)) (fun k _ _ => rfl))) (gG.out (hT))) ⟨rfl, rfl, Nat.le_of_ble_eq_true rfl, Nat.le_of_ble_eq_true rfl, Nat.le_of_ble_eq_true rfl, Nat.le_of_ble_eq_true rfl⟩ (fun h => m_build l (Nat.le_of_ble_eq_true rfl) h3 i1 i2 i3 i4)
  · exact CO.thr ho hdb hwk hd (by omega) hb (by decide) (w1_build l h0 rfl (x1_build l hst h1)) ⟨Nat.le_of_ble_eq_true rfl, Nat.le_of_ble_eq_true rfl⟩ (fun h => mx1_build l (Nat.le_of_ble_eq_true rfl) h1)
set_option maxRecDepth 100000 in
set_option maxHeartbeats 4000000 in
theorem co_chain (l : Launch) (hst : l.stackTraces = false) {z0 : Nat} {D : va_G} {cy : Nat → ClassId} {ad : Nat → Nat} {d : Nat} {th : Int32} {g : Nat → va_E} (hI : Inv cy ad d th g) (hdd : d ≤ 1000000) (a0 a1 : Int32) : CO l yL_chain cL_chain 5 [(0, 10, 13, 13), (0, 10, 17, 15), (0, 10, 21, 21)] 8 143 yX5_chain cX5_chain 5 .int z0 D cy ad (d + 100) g [.ref (ad 0), .int a0, .int a1, .ref (ad 61)] [.ref (ad 54), .int a0, .int a1] := by
  obtain ⟨S, ra, le, g0, d0, ho, hdb, hwk, hd, hd0, hb, rfl⟩ := hI
  rw [gM_gV ho]
  have hb' := hb.gM (th := th) (ra2 := ra) (le2 := le) (T := S)
  have h0 := (RO.v (cy := cy) (S := S) hb'.1).2
  have hN := ho.1
  have hP := ho.2.1
  rcases hasB_c (sN S) (by omega) a0 with ⟨h, hh, rfl, e0⟩ | ⟨e0, -⟩
  · have hT : a1 = -1 ∨ hasB (sN S) a1 = 1 → (∃ k, Ter (sN S) (sH S) k a1) := by
      intro q
      rcases q with rfl | q
      · exact ⟨0, rfl⟩
      · rcases hasB_c (sN S) (by omega) a1 with ⟨j, hj, rfl, e1⟩ | ⟨e1, -⟩
        · obtain ⟨k, -, hk⟩ := ok_ter ho hj
          exact ⟨k, hk⟩
        · rw [e1] at q
          exact absurd q (by decide)
    by_cases h2 : a1 = -1 ∨ hasB (sN S) a1 = 1
    · by_cases h3 : nI h = a1
      · subst h3
        exact CO.thr ho hdb hwk hd (by omega) hb (by decide) (w2_chain l h0 rfl (x3_chain l hst hb'.1 ho hh)) ⟨Nat.le_of_ble_eq_true rfl, Nat.le_of_ble_eq_true rfl⟩ (fun h => mx2_chain l (Nat.le_of_ble_eq_true rfl) ho hh)
      · obtain ⟨k, hk⟩ := hT h2
        cases h4 : thru k (sH S) a1 (nI h) with
        | false =>
          obtain ⟨o1, o2⟩ := chT_ok ho hh hk h4
          exact CO.ret (S' := chT h a1 S) (fun q => by cases q) (o1) (hdb.qf rfl rfl rfl) (hwk) (hd) (by omega) (w_chain l h0 rfl (ct_G (c_chain l hb'.1 ho hh h2 h3 hk h4 o1 o2) (gG.of (hb'.mono (Nat.le_refl _) (Nat.le_refl _)) (fun k _ _ => rfl))) (gG.out (o1))) ⟨rfl, rfl, Nat.le_of_ble_eq_true rfl, Nat.le_of_ble_eq_true rfl, Nat.le_of_ble_eq_true rfl, Nat.le_of_ble_eq_true rfl⟩ (fun h => m_chain l (Nat.le_of_ble_eq_true rfl) ho hh h2 h3 hk h4)
        | true =>
          have n1 : a1 ≠ -1 := by
            intro q
            subst q
            have hk0 : k = 0 := Ter.det hN hk (rfl : Ter (sN S) (sH S) 0 (-1))
            subst hk0
            exact absurd (show false = true from h4) (by decide)
          have n2 := h2.resolve_left n1
          exact CO.thr ho hdb hwk hd (by omega) hb (by decide) (w3_chain l h0 rfl (x4_chain l hst hb'.1 ho hh n1 n2 h3 hk h4)) ⟨Nat.le_of_ble_eq_true rfl, Nat.le_of_ble_eq_true rfl⟩ (fun h => mx3_chain l (Nat.le_of_ble_eq_true rfl) ho hh n1 n2 h3 hk h4)
    · have n1 : a1 ≠ -1 := fun q => h2 (Or.inl q)
      have n2 : hasB (sN S) a1 = 0 := by
        rcases hasB_c (sN S) (by omega) a1 with ⟨j, hj, q, e1⟩ | ⟨e1, -⟩
        · exact absurd (Or.inr e1) h2
        · exact e1
      exact CO.thr ho hdb hwk hd (by omega) hb (by decide) (w1_chain l h0 rfl (x2_chain l hst hb'.1 ho hh n1 n2)) ⟨Nat.le_of_ble_eq_true rfl, Nat.le_of_ble_eq_true rfl⟩ (fun h => mx1_chain l (Nat.le_of_ble_eq_true rfl) ho (Or.inr ⟨n1, n2⟩))
  · exact CO.thr ho hdb hwk hd (by omega) hb (by decide) (w1_chain l h0 rfl (x1_chain l hst hb'.1 e0)) ⟨Nat.le_of_ble_eq_true rfl, Nat.le_of_ble_eq_true rfl⟩ (fun h => mx1_chain l (Nat.le_of_ble_eq_true rfl) ho (Or.inl e0))
set_option maxRecDepth 100000 in
set_option maxHeartbeats 4000000 in
theorem co_lay (l : Launch) (hst : l.stackTraces = false) {z0 : Nat} {D : va_G} {cy : Nat → ClassId} {ad : Nat → Nat} {d : Nat} {th : Int32} {g : Nat → va_E} (hI : Inv cy ad d th g) (hdd : d ≤ 1000000) (a0 a1 a2 : Int32) : CO l yL_lay cL_lay 6 [(0, 12, 15, 13), (0, 12, 19, 15), (0, 12, 23, 21)] 8 144 yX5_lay cX5_lay 5 .int z0 D cy ad (d + 100) g [.ref (ad 0), .int a0, .int a1, .int a2, .ref (ad 61)] [.ref (ad 54), .int a0, .int a1, .int a2] := by
  obtain ⟨S, ra, le, g0, d0, ho, hdb, hwk, hd, hd0, hb, rfl⟩ := hI
  rw [gM_gV ho]
  have hb' := hb.gM (th := th) (ra2 := ra) (le2 := le) (T := S)
  have h0 := (RO.v (cy := cy) (S := S) hb'.1).2
  have hN := ho.1
  have hP := ho.2.1
  rcases hasB_c (sN S) (by omega) a0 with ⟨a, ha, rfl, e0⟩ | ⟨e0, -⟩
  · rcases hasB_c (sN S) (by omega) a1 with ⟨b, hb2, rfl, e1⟩ | ⟨e1, -⟩
    · by_cases h3 : nI a ≠ nI b ∧ IN a2 1 50
      · obtain ⟨h3, h4⟩ := h3
        have hab : a ≠ b := fun q => h3 (by rw [q])
        by_cases h5 : sP S = 12
        · exact CO.thr ho hdb hwk hd (by omega) hb (by decide) (w3_lay l h0 rfl (x4_lay l hst hb'.1 e0 e1 h3 h4 h5)) ⟨Nat.le_of_ble_eq_true rfl, Nat.le_of_ble_eq_true rfl⟩ (fun h => mx3_lay l (Nat.le_of_ble_eq_true rfl) ho e0 e1 h3 h4 h5)
        · have h6 : sP S < 12 := by omega
          have hT := layT_ok ho ha hb2 hab h4 h6
          exact CO.ret (S' := layT (nI a) (nI b) a2 S) (fun q => by cases q) (hT) (db_lay hdb) (hwk) (hd) (by omega) (w_lay l h0 rfl (ct_G (c_lay l hb'.1 ho ha hb2 hab h4 h6 ⟨by omega, hb'.2.2.2.2.1 _ (Nat.le_refl _) h6⟩) (gG.of (hb'.mono (Nat.le_refl _) (Nat.le_succ _)) (fun k _ _ => rfl))) (gG.out (hT))) ⟨rfl, rfl, Nat.le_of_ble_eq_true rfl, Nat.le_of_ble_eq_true rfl, Nat.le_of_ble_eq_true rfl, Nat.le_of_ble_eq_true rfl⟩ (fun h => m_lay l (Nat.le_of_ble_eq_true rfl) ho ha hb2 hab h4 h6)
      · exact CO.thr ho hdb hwk hd (by omega) hb (by decide) (w2_lay l h0 rfl (x3_lay l hst hb'.1 e0 e1 h3)) ⟨Nat.le_of_ble_eq_true rfl, Nat.le_of_ble_eq_true rfl⟩ (fun h => mx2_lay l (Nat.le_of_ble_eq_true rfl) ho e0 e1 h3)
    · exact CO.thr ho hdb hwk hd (by omega) hb (by decide) (w1_lay l h0 rfl (x2_lay l hst hb'.1 e0 e1)) ⟨Nat.le_of_ble_eq_true rfl, Nat.le_of_ble_eq_true rfl⟩ (fun h => mx1_lay l (Nat.le_of_ble_eq_true rfl) ho (Or.inr e1))
  · exact CO.thr ho hdb hwk hd (by omega) hb (by decide) (w1_lay l h0 rfl (x1_lay l hst hb'.1 e0)) ⟨Nat.le_of_ble_eq_true rfl, Nat.le_of_ble_eq_true rfl⟩ (fun h => mx1_lay l (Nat.le_of_ble_eq_true rfl) ho (Or.inl e0))
set_option maxRecDepth 100000 in
set_option maxHeartbeats 4000000 in
theorem co_turn (l : Launch) (hst : l.stackTraces = false) {z0 : Nat} {D : va_G} {cy : Nat → ClassId} {ad : Nat → Nat} {d : Nat} {th : Int32} {g : Nat → va_E} (hI : Inv cy ad d th g) (hdd : d ≤ 1000000) (a0 a1 : Int32) (hbb : isB a1) : CO l yL_turn cL_turn 5 [(0, 17, 20, 13)] 8 144 yX5_turn cX5_turn 4 .boolean z0 D cy ad (d + 100) g [.ref (ad 0), .int a0, .int a1, .ref (ad 61)] [.ref (ad 54), .int a0, .int a1] := by
  obtain ⟨S, ra, le, g0, d0, ho, hdb, hwk, hd, hd0, hb, rfl⟩ := hI
  rw [gM_gV ho]
  have hb' := hb.gM (th := th) (ra2 := ra) (le2 := le) (T := S)
  have h0 := (RO.v (cy := cy) (S := S) hb'.1).2
  have hN := ho.1
  have hP := ho.2.1
  rcases hasB_c (sP S) (by omega) a0 with ⟨j, hj, rfl, e0⟩ | ⟨e0, -⟩
  · have hv : isB (sQ S j 3) := (okQ_ends ho hj).2.2.2.2.2.2.2
    have hT := tuT_ok (j := j) ho hbb
    exact CO.ret (S' := tuT j a1 S) (fun _ => hv) (hT) (db_tu hdb) (hwk) (hd) (by omega) (w_turn l h0 rfl hv (ct_G (c_turn l hb'.1 ho hj hbb) (gG.of (hb'.mono (Nat.le_refl _) (Nat.le_refl _)) (fun k _ _ => rfl))) (gG.out (hT))) ⟨rfl, rfl, Nat.le_of_ble_eq_true rfl, Nat.le_of_ble_eq_true rfl, Nat.le_of_ble_eq_true rfl, Nat.le_of_ble_eq_true rfl⟩ (fun h => m_turn l (Nat.le_of_ble_eq_true rfl) ho hj hbb)
  · exact CO.thr ho hdb hwk hd (by omega) hb (by decide) (w1_turn l h0 rfl (x1_turn l hst hb'.1 e0)) ⟨Nat.le_of_ble_eq_true rfl, Nat.le_of_ble_eq_true rfl⟩ (fun h => mx1_turn l (Nat.le_of_ble_eq_true rfl) ho e0)
set_option maxRecDepth 100000 in
set_option maxHeartbeats 4000000 in
theorem co_clean (l : Launch) (hst : l.stackTraces = false) {z0 : Nat} {D : va_G} {cy : Nat → ClassId} {ad : Nat → Nat} {d : Nat} {th : Int32} {g : Nat → va_E} (hI : Inv cy ad d th g) (hdd : d ≤ 1000000) (a0 : Int32) : CO l yL_clean cL_clean 4 [(0, 9, 12, 13)] 8 143 yX5_clean cX5_clean 3 .int z0 D cy ad (d + 100) g [.ref (ad 0), .int a0, .ref (ad 61)] [.ref (ad 54), .int a0] := by
  obtain ⟨S, ra, le, g0, d0, ho, hdb, hwk, hd, hd0, hb, rfl⟩ := hI
  rw [gM_gV ho]
  have hb' := hb.gM (th := th) (ra2 := ra) (le2 := le) (T := S)
  have h0 := (RO.v (cy := cy) (S := S) hb'.1).2
  have hN := ho.1
  have hP := ho.2.1
  rcases hasB_c (sN S) (by omega) a0 with ⟨h, hh, rfl, e0⟩ | ⟨e0, -⟩
  · have hT := clT_ok ho hh
    exact CO.ret (S' := clT h S) (fun q => by cases q) (hT) (hdb.qf rfl rfl rfl) (hwk) (hd) (by omega) (w_clean l h0 rfl (ct_G (c_clean l hb'.1 ho hh) (gG.of (hb'.mono (Nat.le_refl _) (Nat.le_refl _)) (fun k _ _ => rfl))) (gG.out (hT))) ⟨rfl, rfl, Nat.le_of_ble_eq_true rfl, Nat.le_of_ble_eq_true rfl, Nat.le_of_ble_eq_true rfl, Nat.le_of_ble_eq_true rfl⟩ (fun h => m_clean l (Nat.le_of_ble_eq_true rfl) ho hh)
  · exact CO.thr ho hdb hwk hd (by omega) hb (by decide) (w1_clean l h0 rfl (x1_clean l hst hb'.1 e0)) ⟨Nat.le_of_ble_eq_true rfl, Nat.le_of_ble_eq_true rfl⟩ (fun h => mx1_clean l (Nat.le_of_ble_eq_true rfl) ho e0)
set_option maxRecDepth 100000 in
set_option maxHeartbeats 4000000 in
theorem co_cart (l : Launch) (hst : l.stackTraces = false) {z0 : Nat} {D : va_G} {cy : Nat → ClassId} {ad : Nat → Nat} {d : Nat} {th : Int32} {g : Nat → va_E} (hI : Inv cy ad d th g) (hdd : d ≤ 1000000) (a0 a1 : Int32) : CO l yL_cart cL_cart 5 [(0, 10, 13, 13), (0, 10, 17, 15)] 8 143 yX5_cart cX5_cart 3 .int z0 D cy ad (d + 100) g [.ref (ad 0), .int a0, .int a1, .ref (ad 61)] [.ref (ad 54), .int a0, .int a1] := by
  obtain ⟨S, ra, le, g0, d0, ho, hdb, hwk, hd, hd0, hb, rfl⟩ := hI
  rw [gM_gV ho]
  have hb' := hb.gM (th := th) (ra2 := ra) (le2 := le) (T := S)
  have h0 := (RO.v (cy := cy) (S := S) hb'.1).2
  have hN := ho.1
  have hP := ho.2.1
  rcases hasB_c (sN S) (by omega) a0 with ⟨h, hh, rfl, e0⟩ | ⟨e0, -⟩
  · by_cases h1 : IN a1 1 500
    · have i1 := h1.i
      have z1 : (1 : Int32).toInt = 1 := by decide
      rw [z1] at i1
      obtain ⟨hT, -, -⟩ := pourT_ok (S := caT a1 S) (ok_M ho) hh (a := a1) (by omega)
      exact CO.ret (S' := pourT (caT a1 S) (nI h) a1) (fun q => by cases q) (hT) (hdb.qf rfl rfl rfl) (hwk) (hd) (by omega) (w_cart l h0 rfl (ct_G (c_cart l hb'.1 ho hh h1) (gG.of (hb'.mono (Nat.le_refl _) (Nat.le_refl _)) (fun k _ _ => rfl))) (gG.out (hT))) ⟨rfl, rfl, Nat.le_of_ble_eq_true rfl, Nat.le_of_ble_eq_true rfl, Nat.le_of_ble_eq_true rfl, Nat.le_of_ble_eq_true rfl⟩ (fun h => m_cart l (Nat.le_of_ble_eq_true rfl) ho hh h1)
    · exact CO.thr ho hdb hwk hd (by omega) hb (by decide) (w2_cart l h0 rfl (x2_cart l hst hb'.1 e0 h1)) ⟨Nat.le_of_ble_eq_true rfl, Nat.le_of_ble_eq_true rfl⟩ (fun h => mx2_cart l (Nat.le_of_ble_eq_true rfl) ho e0 h1)
  · exact CO.thr ho hdb hwk hd (by omega) hb (by decide) (w1_cart l h0 rfl (x1_cart l hst hb'.1 e0)) ⟨Nat.le_of_ble_eq_true rfl, Nat.le_of_ble_eq_true rfl⟩ (fun h => mx1_cart l (Nat.le_of_ble_eq_true rfl) ho e0)
set_option maxRecDepth 100000 in
set_option maxHeartbeats 4000000 in
theorem co_setPeople (l : Launch) (hst : l.stackTraces = false) {z0 : Nat} {D : va_G} {cy : Nat → ClassId} {ad : Nat → Nat} {d : Nat} {th : Int32} {g : Nat → va_E} (hI : Inv cy ad d th g) (hdd : d ≤ 1000000) (a0 a1 : Int32) : CO l yL_setPeople cL_setPeople 5 [(0, 10, 13, 13), (0, 10, 17, 15)] 8 144 yX5_setPeople cX5_setPeople 4 .int z0 D cy ad (d + 100) g [.ref (ad 0), .int a0, .int a1, .ref (ad 61)] [.ref (ad 54), .int a0, .int a1] := by
  obtain ⟨S, ra, le, g0, d0, ho, hdb, hwk, hd, hd0, hb, rfl⟩ := hI
  rw [gM_gV ho]
  have hb' := hb.gM (th := th) (ra2 := ra) (le2 := le) (T := S)
  have h0 := (RO.v (cy := cy) (S := S) hb'.1).2
  have hN := ho.1
  have hP := ho.2.1
  rcases hasB_c (sN S) (by omega) a0 with ⟨h, hh, rfl, e0⟩ | ⟨e0, -⟩
  · by_cases h1 : IN a1 0 9
    · have hT := peT_ok (h := h) ho h1
      exact CO.ret (S' := peT h a1 S) (fun q => by cases q) (hT) (hdb.qf rfl rfl rfl) (hwk) (hd) (by omega) (w_setPeople l h0 rfl (ct_G (c_setPeople l hb'.1 ho hh h1) (gG.of (hb'.mono (Nat.le_refl _) (Nat.le_refl _)) (fun k _ _ => rfl))) (gG.out (hT))) ⟨rfl, rfl, Nat.le_of_ble_eq_true rfl, Nat.le_of_ble_eq_true rfl, Nat.le_of_ble_eq_true rfl, Nat.le_of_ble_eq_true rfl⟩ (fun h => m_setPeople l (Nat.le_of_ble_eq_true rfl) ho hh h1)
    · exact CO.thr ho hdb hwk hd (by omega) hb (by decide) (w2_setPeople l h0 rfl (x2_setPeople l hst hb'.1 e0 h1)) ⟨Nat.le_of_ble_eq_true rfl, Nat.le_of_ble_eq_true rfl⟩ (fun h => mx2_setPeople l (Nat.le_of_ble_eq_true rfl) ho e0 h1)
  · exact CO.thr ho hdb hwk hd (by omega) hb (by decide) (w1_setPeople l h0 rfl (x1_setPeople l hst hb'.1 e0)) ⟨Nat.le_of_ble_eq_true rfl, Nat.le_of_ble_eq_true rfl⟩ (fun h => mx1_setPeople l (Nat.le_of_ble_eq_true rfl) ho e0)
set_option maxRecDepth 100000 in
set_option maxHeartbeats 4000000 in
theorem co_house (l : Launch) (hst : l.stackTraces = false) {z0 : Nat} {D : va_G} {cy : Nat → ClassId} {ad : Nat → Nat} {d : Nat} {th : Int32} {g : Nat → va_E} (hI : Inv cy ad d th g) (hdd : d ≤ 1000000) (a0 a1 : Int32) : CO l yL_house cL_house 5 [(0, 10, 13, 13)] 8 143 yX5_house cX5_house 3 .int z0 D cy ad (d + 100) g [.ref (ad 0), .int a0, .int a1, .ref (ad 61)] [.ref (ad 54), .int a0, .int a1] := by
  obtain ⟨S, ra, le, g0, d0, ho, hdb, hwk, hd, hd0, hb, rfl⟩ := hI
  rw [gM_gV ho]
  have hb' := hb.gM (th := th) (ra2 := ra) (le2 := le) (T := S)
  have h0 := (RO.v (cy := cy) (S := S) hb'.1).2
  have hN := ho.1
  have hP := ho.2.1
  rcases hasB_c (sN S) (by omega) a0 with ⟨h, hh, rfl, e0⟩ | ⟨e0, -⟩
  · by_cases h1 : IN a1 0 9
    · obtain ⟨j, hj, rfl⟩ := IN_nat (H := 9) (by decide) h1
      exact CO.ret (S' := S) (fun q => by cases q) (ho) (hdb) (hwk) (hd) (by omega) (w_house l h0 rfl (ct_G (c_house l hb'.1 ho hh (by omega) h1) (gG.of (hb') (fun k _ _ => rfl))) (gG.out (ho))) ⟨rfl, rfl, Nat.le_of_ble_eq_true rfl, Nat.le_of_ble_eq_true rfl, Nat.le_of_ble_eq_true rfl, Nat.le_of_ble_eq_true rfl⟩ (fun h => m_house l (Nat.le_of_ble_eq_true rfl) ho hh (by omega) h1)
    · exact CO.thr ho hdb hwk hd (by omega) hb (by decide) (w1_house l h0 rfl (x2_house l hst hb'.1 e0 h1)) ⟨Nat.le_of_ble_eq_true rfl, Nat.le_of_ble_eq_true rfl⟩ (fun h => mx1_house l (Nat.le_of_ble_eq_true rfl) ho (Or.inr h1))
  · exact CO.thr ho hdb hwk hd (by omega) hb (by decide) (w1_house l h0 rfl (x1_house l hst hb'.1 e0)) ⟨Nat.le_of_ble_eq_true rfl, Nat.le_of_ble_eq_true rfl⟩ (fun h => mx1_house l (Nat.le_of_ble_eq_true rfl) ho (Or.inl e0))
set_option maxRecDepth 100000 in
set_option maxHeartbeats 4000000 in
theorem co_pipe (l : Launch) (hst : l.stackTraces = false) {z0 : Nat} {D : va_G} {cy : Nat → ClassId} {ad : Nat → Nat} {d : Nat} {th : Int32} {g : Nat → va_E} (hI : Inv cy ad d th g) (hdd : d ≤ 1000000) (a0 a1 : Int32) : CO l yL_pipe cL_pipe 5 [(0, 10, 13, 13)] 8 143 yX5_pipe cX5_pipe 3 .int z0 D cy ad (d + 100) g [.ref (ad 0), .int a0, .int a1, .ref (ad 61)] [.ref (ad 54), .int a0, .int a1] := by
  obtain ⟨S, ra, le, g0, d0, ho, hdb, hwk, hd, hd0, hb, rfl⟩ := hI
  rw [gM_gV ho]
  have hb' := hb.gM (th := th) (ra2 := ra) (le2 := le) (T := S)
  have h0 := (RO.v (cy := cy) (S := S) hb'.1).2
  have hN := ho.1
  have hP := ho.2.1
  rcases hasB_c (sP S) (by omega) a0 with ⟨h, hh, rfl, e0⟩ | ⟨e0, -⟩
  · by_cases h1 : IN a1 0 4
    · obtain ⟨j, hj, rfl⟩ := IN_nat (H := 4) (by decide) h1
      exact CO.ret (S' := S) (fun q => by cases q) (ho) (hdb) (hwk) (hd) (by omega) (w_pipe l h0 rfl (ct_G (c_pipe l hb'.1 ho hh (by omega) h1) (gG.of (hb') (fun k _ _ => rfl))) (gG.out (ho))) ⟨rfl, rfl, Nat.le_of_ble_eq_true rfl, Nat.le_of_ble_eq_true rfl, Nat.le_of_ble_eq_true rfl, Nat.le_of_ble_eq_true rfl⟩ (fun h => m_pipe l (Nat.le_of_ble_eq_true rfl) ho hh (by omega) h1)
    · exact CO.thr ho hdb hwk hd (by omega) hb (by decide) (w1_pipe l h0 rfl (x2_pipe l hst hb'.1 e0 h1)) ⟨Nat.le_of_ble_eq_true rfl, Nat.le_of_ble_eq_true rfl⟩ (fun h => mx1_pipe l (Nat.le_of_ble_eq_true rfl) ho (Or.inr h1))
  · exact CO.thr ho hdb hwk hd (by omega) hb (by decide) (w1_pipe l h0 rfl (x1_pipe l hst hb'.1 e0)) ⟨Nat.le_of_ble_eq_true rfl, Nat.le_of_ble_eq_true rfl⟩ (fun h => mx1_pipe l (Nat.le_of_ble_eq_true rfl) ho (Or.inl e0))
set_option maxRecDepth 100000 in
set_option maxHeartbeats 4000000 in
theorem co_owes (l : Launch) (hst : l.stackTraces = false) {z0 : Nat} {D : va_G} {cy : Nat → ClassId} {ad : Nat → Nat} {d : Nat} {th : Int32} {g : Nat → va_E} (hI : Inv cy ad d th g) (hdd : d ≤ 1000000) (a0 a1 : Int32) : CO l yL_owes cL_owes 5 [(0, 10, 13, 13)] 8 143 yX5_owes cX5_owes 3 .int z0 D cy ad (d + 100) g [.ref (ad 0), .int a0, .int a1, .ref (ad 61)] [.ref (ad 54), .int a0, .int a1] := by
  obtain ⟨S, ra, le, g0, d0, ho, hdb, hwk, hd, hd0, hb, rfl⟩ := hI
  rw [gM_gV ho]
  have hb' := hb.gM (th := th) (ra2 := ra) (le2 := le) (T := S)
  have h0 := (RO.v (cy := cy) (S := S) hb'.1).2
  have hN := ho.1
  have hP := ho.2.1
  rcases hasB_c (sN S) (by omega) a0 with ⟨a, ha, rfl, e0⟩ | ⟨e0, -⟩
  · rcases hasB_c (sN S) (by omega) a1 with ⟨b, hb2, rfl, e1⟩ | ⟨e1, -⟩
    · exact CO.ret (S' := S) (fun q => by cases q) (ho) (hdb) (hwk) (hd) (by omega) (w_owes l h0 rfl (ct_G (c_owes l hb'.1 ho e0 e1) (gG.of (hb') (fun k _ _ => rfl))) (gG.out (ho))) ⟨rfl, rfl, Nat.le_of_ble_eq_true rfl, Nat.le_of_ble_eq_true rfl, Nat.le_of_ble_eq_true rfl, Nat.le_of_ble_eq_true rfl⟩ (fun h => (m_owes l (Nat.le_of_ble_eq_true rfl) ho ha hb2).to (by rw [hdb a b (by omega) (by omega)]) rfl)
    · exact CO.thr ho hdb hwk hd (by omega) hb (by decide) (w1_owes l h0 rfl (x2_owes l hst hb'.1 e0 e1)) ⟨Nat.le_of_ble_eq_true rfl, Nat.le_of_ble_eq_true rfl⟩ (fun h => mx1_owes l (Nat.le_of_ble_eq_true rfl) ho (Or.inr e1))
  · exact CO.thr ho hdb hwk hd (by omega) hb (by decide) (w1_owes l h0 rfl (x1_owes l hst hb'.1 e0)) ⟨Nat.le_of_ble_eq_true rfl, Nat.le_of_ble_eq_true rfl⟩ (fun h => mx1_owes l (Nat.le_of_ble_eq_true rfl) ho (Or.inl e0))
set_option maxRecDepth 100000 in
set_option maxHeartbeats 4000000 in
theorem co_pass (l : Launch) (hst : l.stackTraces = false) {z0 : Nat} {D : va_G} {cy : Nat → ClassId} {ad : Nat → Nat} {d : Nat} {th : Int32} {g : Nat → va_E} (hI : Inv cy ad d th g) (hdd : d ≤ 1000000) (a0 : Int32) : CO l yL_pass cL_pass 4 [(0, 9, 12, 15)] 8 176 yX5_pass cX5_pass 2 .int z0 D cy ad (d + 100) g [.ref (ad 0), .int a0, .ref (ad 61)] [.ref (ad 54), .int a0] := by
  obtain ⟨S, ra, le, g0, d0, ho, hdb, hwk, hd, hd0, hb, rfl⟩ := hI
  rw [gM_gV ho]
  have hb' := hb.gM (th := th) (ra2 := ra) (le2 := le) (T := S)
  have h0 := (RO.v (cy := cy) (S := S) hb'.1).2
  have hN := ho.1
  have hP := ho.2.1
  by_cases h1 : IN a0 1 100
  · obtain ⟨k, hk, rfl⟩ := IN_nat1 (H := 100) (by decide) h1
    obtain ⟨o1, o2, o3, o4⟩ := daysS_ok (ra := ra) (le := le) hwk ho hd k
    exact CO.ret (S' := daysS ra le k S) (fun q => by cases q) (o1) (db_days hwk ho hdb k) (hwk) (o4) (by omega) (w_pass l h0 rfl (ct_G (c_pass l hb'.1 ho hb'.2.1 hwk hd (by omega) h1) (gG.of (hb'.mono (Nat.le_of_eq o2.symm) (Nat.le_of_eq o3.symm)) (fun k _ _ => rfl))) (gG.out (o1))) ⟨rfl, rfl, Nat.le_of_ble_eq_true rfl, Nat.le_of_ble_eq_true rfl, Nat.le_of_ble_eq_true rfl, Nat.le_of_ble_eq_true rfl⟩ (fun h => (m_pass l (Nat.le_of_ble_eq_true rfl) ho hwk hd (by omega) h1).to (by rw [thDs_eq hwk ho hd k]; rfl) rfl)
  · exact CO.thr ho hdb hwk hd (by omega) hb (by decide) (w1_pass l h0 rfl (x1_pass l hst h1)) ⟨Nat.le_of_ble_eq_true rfl, Nat.le_of_ble_eq_true rfl⟩ (fun h => mx1_pass l (Nat.le_of_ble_eq_true rfl) h1)
set_option maxRecDepth 100000 in
set_option maxHeartbeats 4000000 in
theorem co_count (l : Launch) (hst : l.stackTraces = false) {z0 : Nat} {D : va_G} {cy : Nat → ClassId} {ad : Nat → Nat} {d : Nat} {th : Int32} {g : Nat → va_E} (hI : Inv cy ad d th g) (hdd : d ≤ 1000000) (a0 : Int32) : CO l yL_count cL_count 4 [(0, 9, 12, 13)] 8 141 yX5_count cX5_count 2 .int z0 D cy ad (d + 100) g [.ref (ad 0), .int a0, .ref (ad 61)] [.ref (ad 54), .int a0] := by
  obtain ⟨S, ra, le, g0, d0, ho, hdb, hwk, hd, hd0, hb, rfl⟩ := hI
  rw [gM_gV ho]
  have hb' := hb.gM (th := th) (ra2 := ra) (le2 := le) (T := S)
  have h0 := (RO.v (cy := cy) (S := S) hb'.1).2
  have hN := ho.1
  have hP := ho.2.1
  by_cases h1 : IN a0 0 10
  · obtain ⟨j, hj, rfl⟩ := IN_nat (H := 10) (by decide) h1
    exact CO.ret (S' := S) (fun q => by cases q) (ho) (hdb) (hwk) (hd) (by omega) (w_count l h0 rfl (ct_G (c_count l hb'.1 ho (by omega) h1) (gG.of (hb') (fun k _ _ => rfl))) (gG.out (ho))) ⟨rfl, rfl, Nat.le_of_ble_eq_true rfl, Nat.le_of_ble_eq_true rfl, Nat.le_of_ble_eq_true rfl, Nat.le_of_ble_eq_true rfl⟩ (fun h => m_count l (Nat.le_of_ble_eq_true rfl) ho (by omega) h1)
  · exact CO.thr ho hdb hwk hd (by omega) hb (by decide) (w1_count l h0 rfl (x1_count l hst h1)) ⟨Nat.le_of_ble_eq_true rfl, Nat.le_of_ble_eq_true rfl⟩ (fun h => mx1_count l (Nat.le_of_ble_eq_true rfl) h1)
set_option maxRecDepth 100000 in
set_option maxHeartbeats 4000000 in
theorem co_foresee (l : Launch) (hst : l.stackTraces = false) {z0 : Nat} {D : va_G} {cy : Nat → ClassId} {ad : Nat → Nat} {d : Nat} {th : Int32} {g : Nat → va_E} (hI : Inv cy ad d th g) (hdd : d ≤ 1000000) (a0 a1 : Int32) : CO l yL_foresee cL_foresee 5 [(0, 10, 13, 15), (0, 10, 17, 13)] 8 178 yX5_foresee cX5_foresee 7 .int z0 D cy ad (d + 100) g [.ref (ad 0), .int a0, .int a1, .ref (ad 61)] [.ref (ad 54), .int a0, .int a1] := by
  obtain ⟨S, ra, le, g0, d0, ho, hdb, hwk, hd, hd0, hb, rfl⟩ := hI
  rw [gM_gV ho]
  have hb' := hb.gM (th := th) (ra2 := ra) (le2 := le) (T := S)
  have h0 := (RO.v (cy := cy) (S := S) hb'.1).2
  have hN := ho.1
  have hP := ho.2.1
  by_cases h1 : IN a0 1 100
  · obtain ⟨k, hk, rfl⟩ := IN_nat1 (H := 100) (by decide) h1
    by_cases h2 : IN a1 0 2
    · obtain ⟨j, hj, rfl⟩ := IN_nat (H := 2) (by decide) h2
      exact CO.ret (S' := S) (fun q => by cases q) (ho) (hdb) (hwk) (hd) (by omega) (w_foresee l h0 rfl (ct_T hb' (c_foresee l hb'.1 hb'.2.2.1 ho hb'.2.1 hwk hd (by omega) h1 (by omega) h2)) (gG.out (ho))) ⟨rfl, rfl, Nat.le_of_ble_eq_true rfl, Nat.le_of_ble_eq_true rfl, Nat.le_of_ble_eq_true rfl, Nat.le_of_ble_eq_true rfl⟩ (fun h => m_foresee l (Nat.le_of_ble_eq_true rfl) ho hwk hd (by omega) h1 (by omega) h2)
    · exact CO.thr ho hdb hwk hd (by omega) hb (by decide) (w2_foresee l h0 rfl (x2_foresee l hst h1 h2)) ⟨Nat.le_of_ble_eq_true rfl, Nat.le_of_ble_eq_true rfl⟩ (fun h => mx2_foresee l (Nat.le_of_ble_eq_true rfl) h1 h2)
  · exact CO.thr ho hdb hwk hd (by omega) hb (by decide) (w1_foresee l h0 rfl (x1_foresee l hst h1)) ⟨Nat.le_of_ble_eq_true rfl, Nat.le_of_ble_eq_true rfl⟩ (fun h => mx1_foresee l (Nat.le_of_ble_eq_true rfl) h1)
set_option maxRecDepth 100000 in
set_option maxHeartbeats 4000000 in
theorem co_lasts (l : Launch) (hst : l.stackTraces = false) {z0 : Nat} {D : va_G} {cy : Nat → ClassId} {ad : Nat → Nat} {d : Nat} {th : Int32} {g : Nat → va_E} (hI : Inv cy ad d th g) (hdd : d ≤ 1000000) (a0 : Int32) : CO l yL_lasts cL_lasts 4 [(0, 9, 12, 13)] 8 178 yX5_lasts cX5_lasts 5 .int z0 D cy ad (d + 100) g [.ref (ad 0), .int a0, .ref (ad 61)] [.ref (ad 54), .int a0] := by
  obtain ⟨S, ra, le, g0, d0, ho, hdb, hwk, hd, hd0, hb, rfl⟩ := hI
  rw [gM_gV ho]
  have hb' := hb.gM (th := th) (ra2 := ra) (le2 := le) (T := S)
  have h0 := (RO.v (cy := cy) (S := S) hb'.1).2
  have hN := ho.1
  have hP := ho.2.1
  rcases hasB_c (sN S) (by omega) a0 with ⟨h, hh, rfl, e0⟩ | ⟨e0, -⟩
  · exact CO.ret (S' := S) (fun q => by cases q) (ho) (hdb) (hwk) (hd) (by omega) (w_lasts l h0 rfl (ct_T hb' (c_lasts l hb'.1 hb'.2.2.1 ho hh hb'.2.1 hwk hd (by omega))) (gG.out (ho))) ⟨rfl, rfl, Nat.le_of_ble_eq_true rfl, Nat.le_of_ble_eq_true rfl, Nat.le_of_ble_eq_true rfl, Nat.le_of_ble_eq_true rfl⟩ (fun h => m_lasts l (Nat.le_of_ble_eq_true rfl) ho hh hwk hd (by omega))
  · exact CO.thr ho hdb hwk hd (by omega) hb (by decide) (w1_lasts l h0 rfl (x1_lasts l hst hb'.1 e0)) ⟨Nat.le_of_ble_eq_true rfl, Nat.le_of_ble_eq_true rfl⟩ (fun h => mx1_lasts l (Nat.le_of_ble_eq_true rfl) ho e0)
set_option maxRecDepth 100000 in
set_option maxHeartbeats 4000000 in
theorem co_needs (l : Launch) (hst : l.stackTraces = false) {z0 : Nat} {D : va_G} {cy : Nat → ClassId} {ad : Nat → Nat} {d : Nat} {th : Int32} {g : Nat → va_E} (hI : Inv cy ad d th g) (hdd : d ≤ 1000000) (a0 a1 : Int32) : CO l yL_needs cL_needs 5 [(0, 10, 13, 13), (0, 10, 17, 15)] 8 180 yX5_needs cX5_needs 7 .int z0 D cy ad (d + 100) g [.ref (ad 0), .int a0, .int a1, .ref (ad 61)] [.ref (ad 54), .int a0, .int a1] := by
  obtain ⟨S, ra, le, g0, d0, ho, hdb, hwk, hd, hd0, hb, rfl⟩ := hI
  rw [gM_gV ho]
  have hb' := hb.gM (th := th) (ra2 := ra) (le2 := le) (T := S)
  have h0 := (RO.v (cy := cy) (S := S) hb'.1).2
  have hN := ho.1
  have hP := ho.2.1
  rcases hasB_c (sN S) (by omega) a0 with ⟨h, hh, rfl, e0⟩ | ⟨e0, -⟩
  · by_cases h1 : IN a1 1 60
    · obtain ⟨k, hk, rfl⟩ := IN_nat1 (H := 60) (by decide) h1
      exact CO.ret (S' := S) (fun q => by cases q) (ho) (hdb) (hwk) (hd) (by omega) (w_needs l h0 rfl (ct_T hb' (c_needs l hb'.1 hb'.2.2.1 ho hh hb'.2.1 hwk hd (by omega) h1)) (gG.out (ho))) ⟨rfl, rfl, Nat.le_of_ble_eq_true rfl, Nat.le_of_ble_eq_true rfl, Nat.le_of_ble_eq_true rfl, Nat.le_of_ble_eq_true rfl⟩ (fun h => m_needs l (Nat.le_of_ble_eq_true rfl) ho hh hwk hd (by omega) h1 hk)
    · exact CO.thr ho hdb hwk hd (by omega) hb (by decide) (w2_needs l h0 rfl (x2_needs l hst hb'.1 e0 h1)) ⟨Nat.le_of_ble_eq_true rfl, Nat.le_of_ble_eq_true rfl⟩ (fun h => mx2_needs l (Nat.le_of_ble_eq_true rfl) ho e0 h1)
  · exact CO.thr ho hdb hwk hd (by omega) hb (by decide) (w1_needs l h0 rfl (x1_needs l hst hb'.1 e0)) ⟨Nat.le_of_ble_eq_true rfl, Nat.le_of_ble_eq_true rfl⟩ (fun h => mx1_needs l (Nat.le_of_ble_eq_true rfl) ho e0)
set_option maxRecDepth 100000 in
set_option maxHeartbeats 4000000 in
theorem co_dirty (l : Launch) (hst : l.stackTraces = false) {z0 : Nat} {D : va_G} {cy : Nat → ClassId} {ad : Nat → Nat} {d : Nat} {th : Int32} {g : Nat → va_E} (hI : Inv cy ad d th g) (hdd : d ≤ 1000000) (a0 : Int32) : CO l yL_dirty cL_dirty 4 [(0, 9, 12, 15)] 8 180 yX5_dirty cX5_dirty 7 .int z0 D cy ad (d + 100) g [.ref (ad 0), .int a0, .ref (ad 61)] [.ref (ad 54), .int a0] := by
  obtain ⟨S, ra, le, g0, d0, ho, hdb, hwk, hd, hd0, hb, rfl⟩ := hI
  rw [gM_gV ho]
  have hb' := hb.gM (th := th) (ra2 := ra) (le2 := le) (T := S)
  have h0 := (RO.v (cy := cy) (S := S) hb'.1).2
  have hN := ho.1
  have hP := ho.2.1
  by_cases h1 : IN a0 1 60
  · obtain ⟨k, hk, rfl⟩ := IN_nat1 (H := 60) (by decide) h1
    exact CO.ret (S' := S) (fun q => by cases q) (ho) (hdb) (hwk) (hd) (by omega) (w_dirty l h0 rfl (ct_T hb' (c_dirty l hb'.1 hb'.2.2.1 ho hb'.2.1 hwk hd (by omega) h1)) (gG.out (ho))) ⟨rfl, rfl, Nat.le_of_ble_eq_true rfl, Nat.le_of_ble_eq_true rfl, Nat.le_of_ble_eq_true rfl, Nat.le_of_ble_eq_true rfl⟩ (fun h => m_dirty l (Nat.le_of_ble_eq_true rfl) ho hwk hd (by omega) h1)
  · exact CO.thr ho hdb hwk hd (by omega) hb (by decide) (w1_dirty l h0 rfl (x1_dirty l hst h1)) ⟨Nat.le_of_ble_eq_true rfl, Nat.le_of_ble_eq_true rfl⟩ (fun h => mx1_dirty l (Nat.le_of_ble_eq_true rfl) h1)
set_option maxRecDepth 100000 in
set_option maxHeartbeats 4000000 in
theorem co_advise (l : Launch) (hst : l.stackTraces = false) {z0 : Nat} {D : va_G} {cy : Nat → ClassId} {ad : Nat → Nat} {d : Nat} {th : Int32} {g : Nat → va_E} (hI : Inv cy ad d th g) (hdd : d ≤ 1000000) (a0 : Int32) : CO l yL_advise cL_advise 4 [(0, 9, 12, 15)] 8 180 yX5_advise cX5_advise 7 .int z0 D cy ad (d + 100) g [.ref (ad 0), .int a0, .ref (ad 61)] [.ref (ad 54), .int a0] := by
  obtain ⟨S, ra, le, g0, d0, ho, hdb, hwk, hd, hd0, hb, rfl⟩ := hI
  rw [gM_gV ho]
  have hb' := hb.gM (th := th) (ra2 := ra) (le2 := le) (T := S)
  have h0 := (RO.v (cy := cy) (S := S) hb'.1).2
  have hN := ho.1
  have hP := ho.2.1
  by_cases h1 : IN a0 1 60
  · obtain ⟨k, hk, rfl⟩ := IN_nat1 (H := 60) (by decide) h1
    exact CO.ret (S' := S) (fun q => by cases q) (ho) (hdb) (hwk) (hd) (by omega) (w_advise l h0 rfl (ct_T hb' (c_advise l hb'.1 hb'.2.2.1 ho hb'.2.1 hwk hd (by omega) h1)) (gG.out (ho))) ⟨rfl, rfl, Nat.le_of_ble_eq_true rfl, Nat.le_of_ble_eq_true rfl, Nat.le_of_ble_eq_true rfl, Nat.le_of_ble_eq_true rfl⟩ (fun h => m_advise l (Nat.le_of_ble_eq_true rfl) ho hwk hd (by omega) h1)
  · exact CO.thr ho hdb hwk hd (by omega) hb (by decide) (w1_advise l h0 rfl (x1_advise l hst h1)) ⟨Nat.le_of_ble_eq_true rfl, Nat.le_of_ble_eq_true rfl⟩ (fun h => mx1_advise l (Nat.le_of_ble_eq_true rfl) h1)
