/-! what is poured into a house of the law's village -/
/-- what does not fit -/
def ovF (f : Nat → Int32) (a : Int32) : Int32 := jmax 0 (f 2 + a - f 1)
theorem ov_ok {f : Nat → Int32} {a : Int32} (h : rgH f) (ha : 0 ≤ a.toInt) (hA : a.toInt ≤ 100000) : ovF f a = a - tkF f a ∧ f 2 + (a - ovF f a) = f 2 + tkF f a ∧ 0 ≤ (ovF f a).toInt ∧ (ovF f a).toInt ≤ a.toInt := by
  obtain ⟨_, b, c, _⟩ := h
  have e1 : (f 2 + a).toInt = (f 2).toInt + a.toInt := addI (by omega) (by omega)
  have e2 : (f 2 + a - f 1).toInt = (f 2).toInt + a.toInt - (f 1).toInt := by rw [subI (by rw [e1]; omega) (by rw [e1]; omega), e1]
  have e3 : (ovF f a).toInt = max 0 ((f 2).toInt + a.toInt - (f 1).toInt) := by
    unfold ovF
    rw [jmaxI, e2, li_0]
  have e4 : (f 1 - f 2).toInt = (f 1).toInt - (f 2).toInt := subI (by omega) (by omega)
  have e5 : (tkF f a).toInt = min a.toInt ((f 1).toInt - (f 2).toInt) := by unfold tkF; rw [jminI, e4]
  have e6 : (a - tkF f a).toInt = a.toInt - (tkF f a).toInt := subI (by omega) (by omega)
  have k1 : ovF f a = a - tkF f a := Int32.toInt_inj.mp (by rw [e3, e6, e5]; omega)
  refine ⟨k1, ?_, by omega, by omega⟩
  have e7 : (a - ovF f a).toInt = a.toInt - (ovF f a).toInt := subI (by omega) (by omega)
  have : a - ovF f a = tkF f a := Int32.toInt_inj.mp (by rw [e7, e3, e5]; omega)
  rw [this]
/-- nothing poured changes nothing -/
theorem pour_0 {N : Nat} (hN : N ≤ 10) : ∀ {k : Nat} {hs : Nat → Nat → Int32} {x : Int32}, Ter N hs k x → (∀ h, h < N → rgH (hs h)) → pourS k hs x 0 = (hs, 0)
  | 0, _, _, _, _ => rfl
  | k + 1, hs, x, ⟨j, h1, h2, h3⟩, hr => by
    obtain ⟨r1, r2, r3⟩ := (hr j h1).take (a := 0) (by decide)
    have e0 : tkF (hs j) 0 = 0 := Int32.toInt_inj.mp (by have z := li_0; rw [z] at r3 ⊢; omega)
    have e1 : takeF (hs j) 0 = hs j := by
      unfold takeF
      rw [e0, Int32.add_zero]
      funext i
      unfold upd
      split
      · rename_i q; rw [q]
      · rfl
    rw [h2, pourS_nI (by omega), e1, e0, va_up_eta _ _ _ rfl, Int32.sub_zero]
    exact pour_0 hN h3 hr
/-- one house further down -/
def pT1 (S : tS) (j : Nat) (a : Int32) : tS := setH S (va_up (sH S) j (takeF (sH S j) a))
theorem pourT_st {S : tS} {j k : Nat} {a : Int32} (ho : ok S) (hj : j < sN S) (ht : Ter (sN S) (sH S) k (sH S j 6)) : pourA S (nI j) a = pourA (pT1 S j a) (sH S j 6) (a - tkF (sH S j) a) ∧ pourT S (nI j) a = pourT (pT1 S j a) (sH S j 6) (a - tkF (sH S j) a) := by
  have hN := ho.1
  have hk1 : Ter (sN S) (sH S) (k + 1) (nI j) := ⟨j, hj, rfl, ht⟩
  have hk2 : Ter (sN S) (sH (pT1 S j a)) k (sH S j 6) := ht.congr (fun h _ => va_o (take_o _ _ (by decide)) h)
  have e1 := pourS_ter hN (a := a) hk1 (sN S) (hk1.le hN)
  have e2 := pourS_ter hN (a := a - tkF (sH S j) a) hk2 (sN S) (hk2.le hN)
  have e3 : pourS (sN S) (sH S) (nI j) a = pourS (sN S) (sH (pT1 S j a)) (sH S j 6) (a - tkF (sH S j) a) := by
    rw [e1, e2, pourS_nI (by omega)]
    rfl
  have eA : pourA S (nI j) a = pourA (pT1 S j a) (sH S j 6) (a - tkF (sH S j) a) := by
    unfold pourA
    exact congrArg Prod.snd e3
  refine ⟨eA, ?_⟩
  unfold pourT
  rw [eA, e3]
  rfl
theorem pT1_ok {S : tS} {j : Nat} {a : Int32} (ho : ok S) (hj : j < sN S) (ha : 0 ≤ a.toInt) : ok (pT1 S j a) := ok_h1 ho rfl rfl rfl rfl (take_o _ _ (by decide)) (fun _ => ((ho.2.2.1 j hj).take ha).1)
theorem pourT_z {S : tS} {k : Nat} {x : Int32} (ho : ok S) (ht : Ter (sN S) (sH S) k x) : pourA S x 0 = 0 ∧ pourT S x 0 = S := by
  have hN := ho.1
  have e : pourS (sN S) (sH S) x 0 = (sH S, 0) := by rw [pourS_ter hN ht (sN S) (ht.le hN), pour_0 hN ht ho.2.2.1]
  have eA : pourA S x 0 = 0 := by unfold pourA; rw [e]
  refine ⟨eA, ?_⟩
  unfold pourT
  rw [eA, e, Int32.add_zero]
  show (sN S, sP S, sH S, sQ S, sF S, upd (sM S) 2 (sM S 2)) = S
  rw [show upd (sM S) 2 (sM S 2) = sM S from by
    funext i
    unfold upd
    split
    · rename_i q; rw [q]
    · rfl]
theorem pourT_e {S : tS} {a : Int32} : pourA S (-1) a = a ∧ pourT S (-1) a = setM S (upd (sM S) 2 (sM S 2 + a)) := by
  have e : pourS (sN S) (sH S) (-1) a = (sH S, a) := pourS_m1 _ _ _
  have eA : pourA S (-1) a = a := by unfold pourA; rw [e]
  refine ⟨eA, ?_⟩
  unfold pourT
  rw [eA, e]
set_option maxRecDepth 100000 in
set_option maxHeartbeats 4000000 in
theorem c_X6_pour1 (l : Launch) {z0 n : Nat} {D : va_G} {cy : Nat → ClassId} {ad : Nat → Nat} {f lo k j : Nat} {a : Int32} {S : tS} {ra le : Nat → Int32} {g0 : Nat → va_E} (hn : 97 + sN S + sP S ≤ n) (ho : ok S) (hj : j < sN S) (ha : 0 ≤ a.toInt) (hA : a.toInt ≤ 100000) (ht : Ter (sN S) (sH S) k (sH S j 6)) (hlo : 16 ≤ lo) (ih : 0 < k → Ct0 l yX6_pour cX6_pour 5 (some FieldType.int) f lo z0 D cy n ad (gS cy ad (pT1 S j a) ra le g0) [.ref (ad 54), .int (sH S j 6), .int (a - tkF (sH S j) a)] (some (.int (pourA (pT1 S j a) (sH S j 6) (a - tkF (sH S j) a)))) (gS cy ad (pourT (pT1 S j a) (sH S j 6) (a - tkF (sH S j) a)) ra le g0)) : Ct0 l yX6_pour cX6_pour 5 (some FieldType.int) (f + 1) (lo + 24) z0 D cy n ad (gS cy ad S ra le g0) [.ref (ad 54), .int (nI j), .int a] (some (.int (pourA S (nI j) a))) (gS cy ad (pourT S (nI j) a) ra le g0) := by
  refine ct_of (by decide +kernel) 2 [some (.ref (ad 54)), some (.int (nI j)), some (.int a), none, none] (Nat.le_of_ble_eq_true rfl) rfl ?_
  intro p e s m below meth c X hr hlk hnm
  have hN := ho.1
  obtain ⟨k1, k2, k3, k4⟩ := ov_ok (ho.2.2.1 j hj) ha hA
  obtain ⟨p1, p2⟩ := pourT_st (a := a) ho hj ht
  have hw : va_up (gS cy ad S ra le g0) (97 + j) (cL (upd (sH S j) 2 (sH S j 2 + (a - ovF (sH S j) a)))) = gS cy ad (pT1 S j a) ra le g0 := by
    rw [k2]
    exact gS_upH hj
  have hh : vAt n (gS cy ad (pT1 S j a) ra le g0) (97 + j) (cL (takeF (sH S j) a)) := by
    have q := gS_hh (cy := cy) (ad := ad) (S := pT1 S j a) (ra := ra) (le := le) (g0 := g0) hn hj
    rwa [show sH (pT1 S j a) j = takeF (sH S j) a from va_up_self _ _ _] at q
  have hs1 := gS_s (cy := cy) (ad := ad) (S := pT1 S j a) (ra := ra) (le := le) (g0 := g0) hn
  have ht1 : Ter (sN (pT1 S j a)) (sH (pT1 S j a)) k (sH S j 6) := ht.congr (fun h _ => va_o (take_o _ _ (by decide)) h)
  generalize hQ : MQ below (QcR z0 D (isR (some (.int (pourA S (nI j) a))) n ad (gS cy ad (pourT S (nI j) a) ra le g0))) ([.ref (ad 54), .int (nI j), .int a] : List Value).toArray s 0 0 (fun q => z0 ≤ q) = Q
  refine v_aload0 X dX6_pour_0 rfl ?_
  refine gf_X6_16 X dX6_pour_1 (gS_s hn) ?_
  refine v_iload1 X dX6_pour_4 rfl ?_
  refine v_aaldL X dX6_pour_5 (gS_h hn) rfl hj (by omega) ?_
  refine v_astore3 X rfl (Nat.le_of_ble_eq_true rfl) dX6_pour_6 ?_
  refine v_ico (v := 0) X dX6_pour_7 (by decide) ?_
  refine v_aload3 X dX6_pour_8 rfl ?_
  refine gf_X6_68 X dX6_pour_9 (gS_hh hn hj) ?_
  refine v_iload2 X dX6_pour_12 rfl ?_
  refine v_iadd X dX6_pour_13 ?_
  refine v_aload3 X dX6_pour_14 rfl ?_
  refine gf_X6_48 X dX6_pour_15 (gS_hh hn hj) ?_
  refine v_isub X dX6_pour_18 ?_
  refine v_mmax X dX6_pour_19 wm_X6_71 wt_J9_max_7cf53 wz_J9 wc_J9_max_7cf53 ⟨(by first | exact Nat.le_refl _ | (show 1 ≤ f + 1; omega) | (show 0 + 13 ≤ lo + 24; omega) | (show 8 + (5 + 11) + lo ≤ lo + 24; omega)), (by first | exact Nat.le_refl _ | (show 1 ≤ f + 1; omega) | (show 0 + 13 ≤ lo + 24; omega) | (show 8 + (5 + 11) + lo ≤ lo + 24; omega)), (Nat.le_of_ble_eq_true rfl), (Nat.le_of_ble_eq_true rfl)⟩ ?_
  refine vV.top (w := .int (ovF (sH S j) a)) rfl ?_
  refine v_istore4 X rfl (Nat.le_of_ble_eq_true rfl) dX6_pour_22 ?_
  refine v_aload3 X dX6_pour_24 rfl ?_
  refine v_dup X dX6_pour_25 rfl ?_
  refine gf_X6_68 X dX6_pour_26 (gS_hh hn hj) ?_
  refine v_iload2 X dX6_pour_29 rfl ?_
  refine v_iload X dX6_pour_30 rfl ?_
  refine v_isub X dX6_pour_32 ?_
  refine v_iadd X dX6_pour_33 ?_
  refine pf_X6_68 X dX6_pour_34 (gS_hh hn hj) ?_
  refine vV.gg (hw) ?_
  rw [k1]
  refine v_iload X dX6_pour_37 rfl ?_
  refine v_if_ne (tgt := 44) X dX6_pour_39 (by decide) (fun h1 => ?_) (fun h1 => ?_)
  · refine v_aload3 X dX6_pour_44 rfl ?_
    refine gf_X6_57 X dX6_pour_45 hh ?_
    refine v_if_lt (tgt := 62) X dX6_pour_48 (by decide) (fun h2 => ?_) (fun h2 => ?_)
    · have hk : k = 0 := (Ter_neg hN ht).mp h2
      subst hk
      have e6 : sH S j 6 = -1 := ht
      rw [e6] at p1 p2
      rw [pourT_e.1] at p1
      rw [pourT_e.2] at p2
      refine v_aload0 X dX6_pour_62 rfl ?_
      refine v_dup X dX6_pour_63 rfl ?_
      refine gf_X6_41 X dX6_pour_64 hs1 ?_
      refine v_iload X dX6_pour_67 rfl ?_
      refine v_iadd X dX6_pour_69 ?_
      refine pf_X6_41 X dX6_pour_70 hs1 ?_
      refine vV.gg (gS_upS (T := setM (pT1 S j a) (upd (sM (pT1 S j a)) 2 (sM (pT1 S j a) 2 + (a - tkF (sH S j) a)))) rfl rfl rfl rfl rfl) ?_
      refine v_iload X dX6_pour_73 rfl ?_
      rw [← hQ]
      exact v_iret X hr hlk dX6_pour_75 ⟨by rw [p1], rfl, rfl, by rw [p2]⟩
    · have hk : 0 < k := Nat.pos_of_ne_zero (fun q => h2 ((Ter_neg hN ht).mpr q))
      refine v_aload0 X dX6_pour_51 rfl ?_
      refine v_aload3 X dX6_pour_52 rfl ?_
      refine gf_X6_57 X dX6_pour_53 hh ?_
      refine v_iload X dX6_pour_56 rfl ?_
      refine cd_X6_77 X dX6_pour_58 (ih hk) hs1 rfl (Nat.le_of_ble_eq_true rfl) ⟨(by first | exact Nat.le_refl _ | (show 1 ≤ f + 1; omega) | (show 0 + 13 ≤ lo + 24; omega) | (show 8 + (5 + 11) + lo ≤ lo + 24; omega)), (by first | exact Nat.le_refl _ | (show 1 ≤ f + 1; omega) | (show 0 + 13 ≤ lo + 24; omega) | (show 8 + (5 + 11) + lo ≤ lo + 24; omega)), (Nat.le_of_ble_eq_true rfl), (Nat.le_of_ble_eq_true rfl)⟩ ?_
      rw [← hQ]
      exact v_iret X hr hlk dX6_pour_61 ⟨by rw [p1], rfl, rfl, by rw [p2]⟩
  · have hz : a - tkF (sH S j) a = 0 := h1
    rw [hz] at p1 p2
    obtain ⟨z1, z2⟩ := pourT_z (pT1_ok ho hj ha) ht1
    rw [z1] at p1
    rw [z2] at p2
    refine v_ico (v := 0) X dX6_pour_42 (by decide) ?_
    rw [← hQ]
    exact v_iret X hr hlk dX6_pour_43 ⟨by rw [p1], rfl, rfl, by rw [p2]⟩
theorem c_X6_pour (l : Launch) {z0 n : Nat} {D : va_G} {cy : Nat → ClassId} {ad : Nat → Nat} {ra le : Nat → Int32} {g0 : Nat → va_E} : ∀ (k j : Nat) {a : Int32} {S : tS}, 97 + sN S + sP S ≤ n → ok S → j < sN S → 0 ≤ a.toInt → a.toInt ≤ 100000 → Ter (sN S) (sH S) k (sH S j 6) → Ct0 l yX6_pour cX6_pour 5 (some FieldType.int) (k + 1) (40 + 24 * k) z0 D cy n ad (gS cy ad S ra le g0) [.ref (ad 54), .int (nI j), .int a] (some (.int (pourA S (nI j) a))) (gS cy ad (pourT S (nI j) a) ra le g0)
  | 0, j, a, S, hn, ho, hj, ha, hA, ht => c_X6_pour1 l (f := 0) (lo := 16) hn ho hj ha hA ht (Nat.le_refl _) (fun q => absurd q (by omega))
  | k + 1, j, a, S, hn, ho, hj, ha, hA, ht => c_X6_pour1 l (f := k + 1) (lo := 40 + 24 * k) hn ho hj ha hA ht (by omega) (fun _ => by
      obtain ⟨r1, r2, r3⟩ := (ho.2.2.1 j hj).take ha
      have e6 : (a - tkF (sH S j) a).toInt = a.toInt - (tkF (sH S j) a).toInt := subI (by omega) (by omega)
      obtain ⟨i, h1, h2, h3⟩ := ht
      rw [h2]
      refine c_X6_pour l k i (S := pT1 S j a) hn (pT1_ok ho hj ha) h1 (by omega) (by omega) ?_
      show Ter (sN S) (va_up (sH S) j (takeF (sH S j) a)) k (va_up (sH S) j (takeF (sH S j) a) i 6)
      rw [va_o (take_o _ _ (by decide))]
      exact h3.congr (fun h _ => va_o (take_o _ _ (by decide)) h))
