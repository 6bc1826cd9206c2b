/-! the law's village: all its water; houses and pipes made -/
set_option maxRecDepth 100000 in
set_option maxHeartbeats 4000000 in
theorem c_X6_all (l : Launch) {z0 n : Nat} {D : va_G} {cy : Nat → ClassId} {ad : Nat → Nat} {S : tS} {ra le : Nat → Int32} {g0 : Nat → va_E} (hn : 97 + sN S + sP S ≤ n) (hN : sN S ≤ 10) : Ct0 l yX6_all cX6_all 6 (some FieldType.int) 0 0 z0 D cy n ad (gS cy ad S ra le g0) [.ref (ad 54)] (some (.int (sumS 2 S))) (gS cy ad S ra le g0) := by
  refine ct_of (by decide +kernel) 5 [some (.ref (ad 54)), none, none, none, none, none] (Nat.le_of_ble_eq_true rfl) rfl ?_
  intro p e s m below meth c X hr hlk hnm
  generalize hQ : MQ below (QcR z0 D (isR (some (.int (sumS 2 S))) n ad (gS cy ad S ra le g0))) ([.ref (ad 54)] : List Value).toArray s 0 0 (fun q => z0 ≤ q) = Q
  refine v_ico (v := 0) X dX6_all_0 (by decide) ?_
  refine v_istore1 X rfl (Nat.le_of_ble_eq_true rfl) dX6_all_1 ?_
  refine v_aload0 X dX6_all_2 rfl ?_
  refine gf_X6_16 X dX6_all_3 (gS_s hn) ?_
  refine v_astore2 X rfl (Nat.le_of_ble_eq_true rfl) dX6_all_6 ?_
  refine v_aload2 X dX6_all_7 rfl ?_
  refine v_alenL X dX6_all_8 (gS_h hn) ?_
  refine v_istore3 X rfl (Nat.le_of_ble_eq_true rfl) dX6_all_9 ?_
  refine v_ico (v := 0) X dX6_all_10 (by decide) ?_
  refine v_istore4 X rfl (Nat.le_of_ble_eq_true rfl) dX6_all_11 ?_
  refine loop_up (fun i a => a + sH S i 2) (fun i a => vV p l e (rmv 0 0) s m ([.ref (ad 54)] : List Value).toArray below meth c 6 z0 D 0 0 Q n ad (gS cy ad S ra le g0) 13 [some (.ref (ad 54)), some (.int a), some (.ref (ad 95)), some (.int (nI (sN S))), some (.int (nI i)), none] []) (sN S) ?_ (sN S) 0 0 (Nat.zero_add _) ?_
  · intro i a hi hk
    refine v_iload X dX6_all_13 rfl ?_
    refine v_iload3 X dX6_all_15 rfl ?_
    refine v_icmp_ge (tgt := 39) X dX6_all_16 (by decide) (fun hc => ?_) (fun hc => ?_)
    · exact absurd hc (nIge hi (by omega))
    refine v_aload2 X dX6_all_19 rfl ?_
    refine v_iload X dX6_all_20 rfl ?_
    refine v_aaldL X dX6_all_22 (gS_h hn) rfl hi (by omega) ?_
    refine v_astore5 X rfl (Nat.le_of_ble_eq_true rfl) dX6_all_23 ?_
    refine v_iload1 X dX6_all_25 rfl ?_
    refine v_aload X dX6_all_26 rfl ?_
    refine gf_X6_68 X dX6_all_28 (gS_hh hn hi) ?_
    refine v_iadd X dX6_all_31 ?_
    refine v_istore1 X rfl (Nat.le_of_ble_eq_true rfl) dX6_all_32 ?_
    refine v_iinc4 (v := nI (i + 1)) X rfl (Nat.le_of_ble_eq_true rfl) dX6_all_33 (nI_inc i) ?_
    refine v_goto (tgt := 13) X dX6_all_36 (by decide) ?_
    exact vV.le (by exact ⟨rfl, rfl, rfl, rfl, rfl, trivial⟩) hk
  · refine v_iload X dX6_all_13 rfl ?_
    refine v_iload3 X dX6_all_15 rfl ?_
    refine v_icmp_ge (tgt := 39) X dX6_all_16 (by decide) (fun hc => ?_) (fun hc => ?_)
    · refine v_iload1 X dX6_all_39 rfl ?_
      rw [← hQ]
      exact v_iret X hr hlk dX6_all_40 ⟨rfl, rfl, rfl, rfl⟩
    · exact absurd (Int32.le_refl _) hc
/-- the law's village made anew in part: the new village, cells as it wants them -/
def PB (cy : Nat → ClassId) (ad : Nat → Nat) (T : tS) (ra le : Nat → Int32) (g0 : Nat → va_E) : CtP := fun r n' ad' g' => r = none ∧ n' = 97 + sN T + sP T ∧ (∀ k, k < 95 → ad' k = ad k) ∧ ∀ k, k < 97 + sN T + sP T → g' k = gS cy ad' T ra le g0 k
theorem gS_mid {cy : Nat → ClassId} {ad ad' : Nat → Nat} {S T : tS} {ra le : Nat → Int32} {g0 : Nat → va_E} {k : Nat} (hk : k < 95) (h54 : k ≠ 54) (hF : sF T = sF S) (h : ∀ j, j < 95 → ad' j = ad j) : gS cy ad' T ra le g0 k = gS cy ad S ra le g0 k := by
  unfold gS
  by_cases a1 : k < 54
  · rw [if_pos a1, if_pos a1]
  rw [if_neg a1, if_neg a1, if_neg h54, if_neg h54]
  by_cases a3 : k = 55
  · rw [if_pos a3, if_pos a3, rf_ad (fun i hi => h _ (by omega))]
  rw [if_neg a3, if_neg a3]
  by_cases a4 : k < 84
  · rw [if_pos a4, if_pos a4]
  rw [if_neg a4, if_neg a4]
  by_cases a5 : k = 84
  · rw [if_pos a5, if_pos a5, rf_ad (fun i hi => h _ (by omega))]
  rw [if_neg a5, if_neg a5, if_pos hk, if_pos hk, hF]
theorem cS_adk {ad' : Nat → Nat} {S T : tS} {a b c d : Nat} (hM : sM T = sM S) (h1 : ad' 55 = a) (h2 : ad' 95 = b) (h3 : ad' 96 = c) (h4 : ad' 84 = d) : cS ad' T = .inr (6, [.ref a, .ref b, .ref c, .ref d, .int (sM S 0), .int (sM S 1), .int (sM S 2), .int (sM S 3), .int (sM S 4)]) := by
  unfold cS
  rw [h1, h2, h3, h4, hM]
theorem rf_end {ad : Nat → Nat} {b N q : Nat} {ad' : Nat → Nat} (h : ∀ i, i < N → ad' (b + i) = ad (b + i)) (hq : ad' (b + N) = q) : va_up (rf ad b N) N (some q) = rf ad' b (N + 1) := rf_up h hq
set_option maxRecDepth 100000 in
set_option maxHeartbeats 4000000 in
theorem c_X6_build (l : Launch) {z0 n : Nat} {D : va_G} {cy : Nat → ClassId} {ad : Nat → Nat} {S : tS} {ra le : Nat → Int32} {g0 : Nat → va_E} {r1 h1 p1 q1 : Int32} (hn : 97 + sN S = n) (hP : sP S = 0) (hN : sN S ≤ 10) : CtG l yX6_build cX6_build 7 none { frames := 2, cells := 2, slots := 21, locals := 60 } z0 D cy n ad (gS cy ad S ra le g0) [.ref (ad 54), .int r1, .int h1, .int p1, .int q1] (PB cy ad (buildT r1 h1 p1 q1 S) ra le g0) 2 21 := by
  refine ct_of (by decide +kernel) 2 [some (.ref (ad 54)), some (.int r1), some (.int h1), some (.int p1), some (.int q1), none, none] (Nat.le_of_ble_eq_true rfl) rfl ?_
  intro p e s m below meth c X hr hlk hnm
  generalize ([.ref (ad 54), .int r1, .int h1, .int p1, .int q1] : List Value).toArray = A at X ⊢
  have hn0 : 97 + sN S + sP S ≤ n := by omega
  have hn' : 97 + sN S + sP S ≤ n + 1 := by omega
  have hx1 := X.2.2.2.2.2.2.2.1
  have hx5 := X.2.2.2.2.2.2.2.2.1.2.2.1
  generalize hQ : MQ below (QcR z0 D (PB cy ad (buildT r1 h1 p1 q1 S) ra le g0)) A s 2 21 (fun q => z0 ≤ q) = Q
  refine v_aload0 X dX6_build_0 rfl ?_
  refine gf_X6_16 X dX6_build_1 (gS_s hn0) ?_
  refine v_alenL X dX6_build_4 (gS_h hn0) ?_
  refine v_ico (v := 1) X dX6_build_5 (by decide) ?_
  refine v_iadd X dX6_build_6 ?_
  refine v_newq (t0 := 1) (N := sN S + 1) X (nI_1 _) (by omega) wk_X6_14 hx5 rfl ⟨by show 0 + 1 ≤ 2; omega, by show 0 + (sN S + 1) ≤ 21; omega⟩ dX6_build_7 ?_
  intro ad1 a1
  rw [← a1 54 (by omega), ← gS_ad (ad' := ad1) (fun k _ hk => a1 k (by omega)), show (fun _ : Nat => (none : Option Nat)) = rf ad1 97 0 from rf_0.symm]
  refine v_astore5 X rfl (Nat.le_of_ble_eq_true rfl) dX6_build_10 ?_
  refine v_ico (v := 0) X dX6_build_12 (by decide) ?_
  refine v_istore6 X rfl (Nat.le_of_ble_eq_true rfl) dX6_build_13 ?_
  refine loop_up (S := Unit) (fun _ u => u) (fun i _ => vV p l e { frames := 2, cells := 2, slots := 21, locals := 60 } s m A below meth c 7 z0 D (0 + 1) (0 + (sN S + 1)) Q (n + 1) ad1 (va_up (gS cy ad1 S ra le g0) n (hA cy (sN S + 1) (rf ad1 97 i))) 15 [some (.ref (ad1 54)), some (.int r1), some (.int h1), some (.int p1), some (.int q1), some (.ref (ad1 n)), some (.int (nI i))] []) (sN S) ?_ (sN S) 0 () (Nat.zero_add _) ?_
  · intro i _ hi hk
    refine v_iload X dX6_build_15 rfl ?_
    refine v_aload0 X dX6_build_17 rfl ?_
    refine gf_X6_16 X dX6_build_18 ((gS_s hn').ne (by omega)) ?_
    refine v_alenL X dX6_build_21 ((gS_h hn').ne (by omega)) ?_
    refine v_icmp_ge (tgt := 43) X dX6_build_22 (by decide) (fun hc => ?_) (fun hc => ?_)
    · exact absurd hc (nIge hi (by omega))
    refine v_aload X dX6_build_25 rfl ?_
    refine v_iload X dX6_build_27 rfl ?_
    refine v_aload0 X dX6_build_29 rfl ?_
    refine gf_X6_16 X dX6_build_30 ((gS_s hn').ne (by omega)) ?_
    refine v_iload X dX6_build_33 rfl ?_
    refine v_aaldL X dX6_build_35 ((gS_h hn').ne (by omega)) rfl hi (by omega) ?_
    refine v_aast (t0 := 1) (j := i) X dX6_build_36 ⟨by omega, va_up_self _ _ _⟩ rfl ((gS_hh hn' hi).ne (by omega)) (r := (RX5, TX5, 10)) rfl rfl (by omega) (by omega) ?_
    refine vV.gg (va_up_up _ _ _ _) ?_
    rw [rf_up (ad' := ad1) (fun _ _ => rfl) rfl]
    refine v_iinc6 (v := nI (i + 1)) X rfl (Nat.le_of_ble_eq_true rfl) dX6_build_37 (nI_inc i) ?_
    refine v_goto (tgt := 15) X dX6_build_40 (by decide) ?_
    exact hk
  refine v_iload X dX6_build_15 rfl ?_
  refine v_aload0 X dX6_build_17 rfl ?_
  refine gf_X6_16 X dX6_build_18 ((gS_s hn').ne (by omega)) ?_
  refine v_alenL X dX6_build_21 ((gS_h hn').ne (by omega)) ?_
  refine v_icmp_ge (tgt := 43) X dX6_build_22 (by decide) (fun hc => ?_) (fun hc => ?_)
  · refine v_new (ci := 5) (fs := [.int 0, .int 0, .int 0, .int 0, .int 0, .int 0, .int 0, .int 0, .int 0, .int 0]) X inU_X5 tyX5 tyX5_ok wk_X6_14 wn_X5 wz_X5 rfl (by decide +kernel) ⟨by show 0 + 1 + 1 ≤ 2; omega, by show 0 + (sN S + 1) + 10 ≤ 21; omega⟩ dX6_build_43 ?_
    intro ad2 a2
    refine v_dup X dX6_build_46 rfl ?_
    refine v_callIN (As := []) X (hx1 _ (List.mem_cons_of_mem _ (List.mem_cons_of_mem _ (List.mem_cons_of_mem _ (List.mem_cons_of_mem _ List.mem_cons_self))))) wi_X5_init wz_X5 wc_X5_init rfl ⟨by decide, by decide, (show (parseMethodDescriptor yX5_init.desc).map (fun d => d.parameters.length) = some 0 from by decide +kernel)⟩ dX6_build_47 (c_X5_init l (k := n + 1) ⟨by omega, va_up_self _ _ _⟩) rfl (Nat.le_of_ble_eq_true rfl) ⟨rfl, rfl, Nat.le_of_ble_eq_true rfl, Nat.le_of_ble_eq_true rfl, by show 0 + 1 + 1 + 0 ≤ 2; omega, by show 0 + (sN S + 1) + 10 + 0 ≤ 21; omega⟩ ?_
    rintro r2 n2 ad3 g3 ⟨rfl, rfl, rfl, rfl⟩
    refine vV.gg (va_up_up _ _ _ _) ?_
    have hn2 : 97 + sN S + sP S ≤ n + 1 + 1 := by omega
    refine vV.eqn (pc' := 50) (st' := [.ref (ad3 (n + 1))]) ?_ rfl rfl rfl
    rw [← a2 54 (by omega), ← a2 n (by omega), ← gS_ad (ad' := ad3) (fun k _ hk => a2 k (by omega)), ← rf_ad (ad' := ad3) (ad := ad1) (fun i hi => a2 (97 + i) (by omega))]
    refine v_astore6 X rfl (Nat.le_of_ble_eq_true rfl) dX6_build_50 ?_
    refine v_aload X dX6_build_52 rfl ?_
    refine v_iload1 X dX6_build_54 rfl ?_
    refine pf_X6_45 X dX6_build_55 ⟨by omega, va_up_self _ _ _⟩ ?_
    refine vV.gg (va_up_up _ _ _ _) ?_
    refine v_aload X dX6_build_58 rfl ?_
    refine v_iload2 X dX6_build_60 rfl ?_
    refine pf_X6_48 X dX6_build_61 ⟨by omega, va_up_self _ _ _⟩ ?_
    refine vV.gg (va_up_up _ _ _ _) ?_
    refine v_aload X dX6_build_64 rfl ?_
    refine v_iload3 X dX6_build_66 rfl ?_
    refine pf_X6_51 X dX6_build_67 ⟨by omega, va_up_self _ _ _⟩ ?_
    refine vV.gg (va_up_up _ _ _ _) ?_
    refine v_aload X dX6_build_70 rfl ?_
    refine v_iload X dX6_build_72 rfl ?_
    refine pf_X6_54 X dX6_build_74 ⟨by omega, va_up_self _ _ _⟩ ?_
    refine vV.gg (va_up_up _ _ _ _) ?_
    refine v_aload X dX6_build_77 rfl ?_
    refine v_aload0 X dX6_build_79 rfl ?_
    refine gf_X6_16 X dX6_build_80 (((gS_s hn2).ne (by omega)).ne (by omega)) ?_
    refine v_alenL X dX6_build_83 (((gS_h hn2).ne (by omega)).ne (by omega)) ?_
    refine v_aload X dX6_build_84 rfl ?_
    refine v_aast (t0 := 1) (j := sN S) X dX6_build_86 ⟨by omega, (va_up_ne _ _ (by omega)).trans (va_up_self _ _ _)⟩ rfl ⟨by omega, va_up_self _ _ _⟩ (r := (RX5, TX5, 10)) rfl rfl (by omega) (by omega) ?_
    refine v_aload0 X dX6_build_87 rfl ?_
    refine v_aload X dX6_build_88 rfl ?_
    refine pf_X6_16 X dX6_build_90 ((((gS_s hn2).ne (by omega)).ne (by omega)).ne (by omega)) ?_
    refine vV.re (fun k => if k = 95 then n else if k = n then n + 1 else k) (n' := n + 1) (fun k hk => ⟨?_, rfl, rfl⟩) ?_ ?_
    · show (if k = 95 then n else if k = n then n + 1 else k) < n + 1 + 1
      split
      · omega
      · split <;> omega
    · intro i j hi hj
      show (if i = 95 then n else if i = n then n + 1 else i) = (if j = 95 then n else if j = n then n + 1 else j) → i = j
      split <;> split <;> (try split) <;> (try split) <;> omega
    have hal : ∀ k, k < 95 → ad3 (if k = 95 then n else if k = n then n + 1 else k) = ad3 k := fun k hk => by
      rw [if_neg (by omega), if_neg (by omega)]
    rw [← hQ]
    refine (v_vret X hr hlk dX6_build_93 ⟨rfl, by show n + 1 = 97 + (sN S + 1) + sP S; omega, fun k hk => ?_, fun k hk => ?_⟩).wd (by show _ ≤ 2; omega) (by show _ ≤ 21; omega)
    · show ad3 (if k = 95 then n else if k = n then n + 1 else k) = ad k
      rw [hal k hk, a2 k (by omega), a1 k (by omega)]
    · have hk' : k < n + 1 := by have : k < 97 + (sN S + 1) + sP S := hk; omega
      show va_up _ _ _ (if k = 95 then n else if k = n then n + 1 else k) = _
      by_cases k1 : k = 95
      · rw [if_pos k1, va_up_ne _ _ (by omega), va_up_self, k1]
        show _ = hA cy (sN S + 1) (rf _ 97 (sN S + 1))
        refine congrArg (hA cy (sN S + 1)) (rf_end (fun i hi => ?_) ?_)
        · show ad3 (if 97 + i = 95 then n else if 97 + i = n then n + 1 else 97 + i) = _
          rw [if_neg (by omega), if_neg (by omega)]
        · show ad3 (if 97 + sN S = 95 then n else if 97 + sN S = n then n + 1 else 97 + sN S) = _
          rw [if_neg (by omega), if_pos (by omega)]
      rw [if_neg k1]
      by_cases k2 : k = n
      · rw [if_pos k2, va_up_ne _ _ (by omega), va_up_ne _ _ (by omega), va_up_self]
        have q := (gS_hh (cy := cy) (ad := fun k => ad3 (if k = 95 then n else if k = n then n + 1 else k)) (S := buildT r1 h1 p1 q1 S) (ra := ra) (le := le) (g0 := g0) (Nat.le_refl _) (i := sN S) (Nat.lt_succ_self _)).2
        rw [hn] at q
        rw [k2]
        refine Eq.trans ?_ q.symm
        rw [show sH (buildT r1 h1 p1 q1 S) (sN S) = newH r1 h1 p1 q1 from va_up_self _ _ _]
        rfl
      rw [if_neg k2]
      by_cases k3 : k = 54
      · rw [k3, va_up_self]
        have w95 : ad3 (if 95 = 95 then n else if 95 = n then n + 1 else 95) = ad3 n := by rw [if_pos rfl]
        have w96 : ad3 (if 96 = 95 then n else if 96 = n then n + 1 else 96) = ad3 96 := by rw [if_neg (by omega), if_neg (by omega)]
        exact (cS_adk (ad' := fun k => ad3 (if k = 95 then n else if k = n then n + 1 else k)) (S := S) (T := buildT r1 h1 p1 q1 S) rfl (hal 55 (by omega)) w95 w96 (hal 84 (by omega))).symm
      rw [va_up_ne _ _ k3, va_up_ne _ _ (by omega), va_up_ne _ _ (by omega), va_up_ne _ _ (by omega)]
      by_cases k4 : k < 95
      · exact (gS_mid (S := S) (T := buildT r1 h1 p1 q1 S) k4 k3 rfl hal).symm
      by_cases k5 : k = 96
      · rw [k5]
        show aA cy (sP S) (rf _ _ (sP S)) = aA cy (sP S) (rf _ _ (sP S))
        rw [hP, rf_0, rf_0]
      have w1 := (gS_hh (cy := cy) (ad := ad3) (S := S) (ra := ra) (le := le) (g0 := g0) (Nat.le_refl _) (i := k - 97) (by omega)).2
      have w2 := (gS_hh (cy := cy) (ad := fun k => ad3 (if k = 95 then n else if k = n then n + 1 else k)) (S := buildT r1 h1 p1 q1 S) (ra := ra) (le := le) (g0 := g0) (Nat.le_refl _) (i := k - 97) (by show k - 97 < sN S + 1; omega)).2
      rw [show 97 + (k - 97) = k by omega] at w1 w2
      rw [w1]
      refine Eq.trans ?_ w2.symm
      rw [show sH (buildT r1 h1 p1 q1 S) (k - 97) = sH S (k - 97) from va_up_ne _ _ (by omega)]
  · exact absurd (Int32.le_refl _) hc
set_option maxRecDepth 100000 in
set_option maxHeartbeats 4000000 in
theorem c_X6_lay (l : Launch) {z0 n : Nat} {D : va_G} {cy : Nat → ClassId} {ad : Nat → Nat} {S : tS} {ra le : Nat → Int32} {g0 : Nat → va_E} {a1 b1 l1 : Int32} (hn : 97 + sN S + sP S = n) (hP : sP S ≤ 12) (hN : sN S ≤ 10) : CtG l yX6_lay cX6_lay 6 none { frames := 1, cells := 2, slots := 18, locals := 60 } z0 D cy n ad (gS cy ad S ra le g0) [.ref (ad 54), .int a1, .int b1, .int l1] (PB cy ad (layT a1 b1 l1 S) ra le g0) 2 18 := by
  refine ct_of (by decide +kernel) 2 [some (.ref (ad 54)), some (.int a1), some (.int b1), some (.int l1), none, none] (Nat.le_of_ble_eq_true rfl) rfl ?_
  intro p e s m below meth c X hr hlk hnm
  generalize ([.ref (ad 54), .int a1, .int b1, .int l1] : List Value).toArray = A at X ⊢
  have hn0 : 97 + sN S + sP S ≤ n := by omega
  have hn' : 97 + sN S + sP S ≤ n + 1 := by omega
  generalize hQ : MQ below (QcR z0 D (PB cy ad (layT a1 b1 l1 S) ra le g0)) A s 2 18 (fun q => z0 ≤ q) = Q
  refine v_aload0 X dX6_lay_0 rfl ?_
  refine gf_X6_22 X dX6_lay_1 (gS_s hn0) ?_
  refine v_alenA X dX6_lay_4 (gS_p hn0) ?_
  refine v_ico (v := 1) X dX6_lay_5 (by decide) ?_
  refine v_iadd X dX6_lay_6 ?_
  refine v_newA (N := sP S + 1) X (nI_1 _) (by omega) wk_X6_20 ⟨by show 0 + 1 ≤ 2; omega, by show 0 + (sP S + 1) ≤ 18; omega⟩ dX6_lay_7 ?_
  intro ad1 a1'
  rw [← a1' 54 (by omega), ← gS_ad (ad' := ad1) (fun k _ hk => a1' k (by omega)), show (fun _ : Nat => (none : Option Nat)) = rf ad1 (97 + sN S) 0 from rf_0.symm]
  refine v_astore4 X rfl (Nat.le_of_ble_eq_true rfl) dX6_lay_10 ?_
  refine v_ico (v := 0) X dX6_lay_12 (by decide) ?_
  refine v_istore5 X rfl (Nat.le_of_ble_eq_true rfl) dX6_lay_13 ?_
  refine loop_up (S := Unit) (fun _ u => u) (fun i _ => vV p l e { frames := 1, cells := 2, slots := 18, locals := 60 } s m A below meth c 6 z0 D (0 + 1) (0 + (sP S + 1)) Q (n + 1) ad1 (va_up (gS cy ad1 S ra le g0) n (aA cy (sP S + 1) (rf ad1 (97 + sN S) i))) 15 [some (.ref (ad1 54)), some (.int a1), some (.int b1), some (.int l1), some (.ref (ad1 n)), some (.int (nI i))] []) (sP S) ?_ (sP S) 0 () (Nat.zero_add _) ?_
  · intro i _ hi hk
    refine v_iload X dX6_lay_15 rfl ?_
    refine v_aload0 X dX6_lay_17 rfl ?_
    refine gf_X6_22 X dX6_lay_18 ((gS_s hn').ne (by omega)) ?_
    refine v_alenA X dX6_lay_21 ((gS_p hn').ne (by omega)) ?_
    refine v_icmp_ge (tgt := 43) X dX6_lay_22 (by decide) (fun hc => ?_) (fun hc => ?_)
    · exact absurd hc (nIge hi (by omega))
    refine v_aload X dX6_lay_25 rfl ?_
    refine v_iload X dX6_lay_27 rfl ?_
    refine v_aload0 X dX6_lay_29 rfl ?_
    refine gf_X6_22 X dX6_lay_30 ((gS_s hn').ne (by omega)) ?_
    refine v_iload X dX6_lay_33 rfl ?_
    refine v_aaldR X dX6_lay_35 ((gS_p hn').ne (by omega)) rfl hi (by omega) ?_
    refine v_aastA (j := i) X dX6_lay_36 ⟨by omega, va_up_self _ _ _⟩ ((gS_pp hn' hi).ne (by omega)) rfl (by omega) (by omega) ?_
    refine vV.gg (va_up_up _ _ _ _) ?_
    rw [rf_up (ad' := ad1) (fun _ _ => rfl) rfl]
    refine v_iinc5 (v := nI (i + 1)) X rfl (Nat.le_of_ble_eq_true rfl) dX6_lay_37 (nI_inc i) ?_
    refine v_goto (tgt := 15) X dX6_lay_40 (by decide) ?_
    exact hk
  refine v_iload X dX6_lay_15 rfl ?_
  refine v_aload0 X dX6_lay_17 rfl ?_
  refine gf_X6_22 X dX6_lay_18 ((gS_s hn').ne (by omega)) ?_
  refine v_alenA X dX6_lay_21 ((gS_p hn').ne (by omega)) ?_
  refine v_icmp_ge (tgt := 43) X dX6_lay_22 (by decide) (fun hc => ?_) (fun hc => ?_)
  · refine v_aload X dX6_lay_43 rfl ?_
    refine v_aload0 X dX6_lay_45 rfl ?_
    refine gf_X6_22 X dX6_lay_46 ((gS_s hn').ne (by omega)) ?_
    refine v_alenA X dX6_lay_49 ((gS_p hn').ne (by omega)) ?_
    refine v_ico (v := 5) X dX6_lay_50 (by decide) ?_
    refine v_newi (N := 5) X rfl (by omega) ⟨by show 0 + 1 + 1 ≤ 2; omega, by show 0 + (sP S + 1) + 5 ≤ 18; omega⟩ dX6_lay_51 ?_
    intro ad3 a3
    have hn2 : 97 + sN S + sP S ≤ n + 1 + 1 := by omega
    rw [← a3 54 (by omega), ← a3 n (by omega), ← gS_ad (ad' := ad3) (fun k _ hk => a3 k (by omega)), ← rf_ad (ad' := ad3) (ad := ad1) (fun i hi => a3 (97 + sN S + i) (by omega))]
    refine v_dup X dX6_lay_53 rfl ?_
    refine v_ico (v := 0) X dX6_lay_54 (by decide) ?_
    refine v_iload1 X dX6_lay_55 rfl ?_
    refine v_iast X dX6_lay_56 ⟨by omega, va_up_self _ _ _⟩ rfl (by decide) (by decide) ?_
    refine vV.gg (va_up_up _ _ _ _) ?_
    refine v_dup X dX6_lay_57 rfl ?_
    refine v_ico (v := 1) X dX6_lay_58 (by decide) ?_
    refine v_iload2 X dX6_lay_59 rfl ?_
    refine v_iast X dX6_lay_60 ⟨by omega, va_up_self _ _ _⟩ rfl (by decide) (by decide) ?_
    refine vV.gg (va_up_up _ _ _ _) ?_
    refine v_dup X dX6_lay_61 rfl ?_
    refine v_ico (v := 2) X dX6_lay_62 (by decide) ?_
    refine v_iload3 X dX6_lay_63 rfl ?_
    refine v_iast X dX6_lay_64 ⟨by omega, va_up_self _ _ _⟩ rfl (by decide) (by decide) ?_
    refine vV.gg (va_up_up _ _ _ _) ?_
    refine v_dup X dX6_lay_65 rfl ?_
    refine v_ico (v := 3) X dX6_lay_66 (by decide) ?_
    refine v_ico (v := 1) X dX6_lay_67 (by decide) ?_
    refine v_iast X dX6_lay_68 ⟨by omega, va_up_self _ _ _⟩ rfl (by decide) (by decide) ?_
    refine vV.gg (va_up_up _ _ _ _) ?_
    refine v_dup X dX6_lay_69 rfl ?_
    refine v_ico (v := 4) X dX6_lay_70 (by decide) ?_
    refine v_ico (v := 0) X dX6_lay_71 (by decide) ?_
    refine v_iast X dX6_lay_72 ⟨by omega, va_up_self _ _ _⟩ rfl (by decide) (by decide) ?_
    refine vV.gg (va_up_up _ _ _ _) ?_
    refine v_aastA (j := sP S) (M := 5) X dX6_lay_73 ⟨by omega, (va_up_ne _ _ (by omega)).trans (va_up_self _ _ _)⟩ ⟨by omega, va_up_self _ _ _⟩ rfl (by omega) (by omega) ?_
    refine v_aload0 X dX6_lay_74 rfl ?_
    refine v_aload X dX6_lay_75 rfl ?_
    refine pf_X6_22 X dX6_lay_77 ((((gS_s hn2).ne (by omega)).ne (by omega)).ne (by omega)) ?_
    refine vV.re (fun k => if k = 96 then n else if k = n then n + 1 else k) (n' := n + 1) (fun k hk => ⟨?_, rfl, rfl⟩) ?_ ?_
    · show (if k = 96 then n else if k = n then n + 1 else k) < n + 1 + 1
      split
      · omega
      · split <;> omega
    · intro i j hi hj
      show (if i = 96 then n else if i = n then n + 1 else i) = (if j = 96 then n else if j = n then n + 1 else j) → i = j
      split <;> split <;> (try split) <;> (try split) <;> omega
    have hal : ∀ k, k < 96 → ad3 (if k = 96 then n else if k = n then n + 1 else k) = ad3 k := fun k hk => by
      rw [if_neg (by omega), if_neg (by omega)]
    rw [← hQ]
    refine (v_vret X hr hlk dX6_lay_80 ⟨rfl, by show n + 1 = 97 + sN S + (sP S + 1); omega, fun k hk => ?_, fun k hk => ?_⟩).wd (by show _ ≤ 2; omega) (by show _ ≤ 18; omega)
    · show ad3 (if k = 96 then n else if k = n then n + 1 else k) = ad k
      rw [hal k (by omega), a3 k (by omega), a1' k (by omega)]
    · have hk' : k < n + 1 := by have : k < 97 + sN S + (sP S + 1) := hk; omega
      show va_up _ _ _ (if k = 96 then n else if k = n then n + 1 else k) = _
      by_cases k1 : k = 96
      · rw [if_pos k1, va_up_ne _ _ (by omega), va_up_self, k1]
        show _ = aA cy (sP S + 1) (rf _ (97 + sN S) (sP S + 1))
        refine congrArg (aA cy (sP S + 1)) (rf_end (fun i hi => ?_) ?_)
        · show ad3 (if 97 + sN S + i = 96 then n else if 97 + sN S + i = n then n + 1 else 97 + sN S + i) = _
          rw [if_neg (by omega), if_neg (by omega)]
        · show ad3 (if 97 + sN S + sP S = 96 then n else if 97 + sN S + sP S = n then n + 1 else 97 + sN S + sP S) = _
          rw [if_neg (by omega), if_pos (by omega)]
      rw [if_neg k1]
      by_cases k2 : k = n
      · rw [if_pos k2, va_up_ne _ _ (by omega), va_up_ne _ _ (by omega), va_up_self]
        have q := (gS_pp (cy := cy) (ad := fun k => ad3 (if k = 96 then n else if k = n then n + 1 else k)) (S := layT a1 b1 l1 S) (ra := ra) (le := le) (g0 := g0) (Nat.le_refl _) (i := sP S) (Nat.lt_succ_self _)).2
        have e1 : sN (layT a1 b1 l1 S) = sN S := rfl
        rw [e1, hn] at q
        rw [k2]
        refine Eq.trans ?_ q.symm
        rw [show sQ (layT a1 b1 l1 S) (sP S) = newQ a1 b1 l1 from va_up_self _ _ _]
        refine congrArg (iA cy 5) ?_
        funext j
        unfold c5 newQ dfQ upd
        by_cases j0 : j = 0
        · subst j0; rfl
        by_cases j1 : j = 1
        · subst j1; rfl
        by_cases j2 : j = 2
        · subst j2; rfl
        by_cases j3 : j = 3
        · subst j3; rfl
        simp [j0, j1, j2, j3]
      rw [if_neg k2]
      by_cases k3 : k = 54
      · rw [k3, va_up_self]
        have w95 : ad3 (if 95 = 96 then n else if 95 = n then n + 1 else 95) = ad3 95 := hal 95 (by omega)
        have w96 : ad3 (if 96 = 96 then n else if 96 = n then n + 1 else 96) = ad3 n := by rw [if_pos rfl]
        exact (cS_adk (ad' := fun k => ad3 (if k = 96 then n else if k = n then n + 1 else k)) (S := S) (T := layT a1 b1 l1 S) rfl (hal 55 (by omega)) w95 w96 (hal 84 (by omega))).symm
      rw [va_up_ne _ _ k3, va_up_ne _ _ (by omega), va_up_ne _ _ (by omega), va_up_ne _ _ (by omega)]
      by_cases k4 : k < 95
      · exact (gS_mid (S := S) (T := layT a1 b1 l1 S) k4 k3 rfl (fun j hj => hal j (by omega))).symm
      by_cases k5 : k = 95
      · rw [k5]
        show hA cy (sN S) (rf _ _ (sN S)) = hA cy (sN S) (rf _ _ (sN S))
        refine congrArg (hA cy (sN S)) (rf_ad (fun i hi => ?_)).symm
        show ad3 (if 97 + i = 96 then n else if 97 + i = n then n + 1 else 97 + i) = _
        rw [if_neg (by omega), if_neg (by omega)]
      by_cases k6 : k < 97 + sN S
      · have w1 := (gS_hh (cy := cy) (ad := ad3) (S := S) (ra := ra) (le := le) (g0 := g0) (Nat.le_refl _) (i := k - 97) (by omega)).2
        have w2 := (gS_hh (cy := cy) (ad := fun k => ad3 (if k = 96 then n else if k = n then n + 1 else k)) (S := layT a1 b1 l1 S) (ra := ra) (le := le) (g0 := g0) (Nat.le_refl _) (i := k - 97) (by show k - 97 < sN S; omega)).2
        rw [show 97 + (k - 97) = k by omega] at w1 w2
        rw [w1]
        exact w2.symm
      · have w1 := (gS_pp (cy := cy) (ad := ad3) (S := S) (ra := ra) (le := le) (g0 := g0) (Nat.le_refl _) (i := k - (97 + sN S)) (by omega)).2
        have w2 := (gS_pp (cy := cy) (ad := fun k => ad3 (if k = 96 then n else if k = n then n + 1 else k)) (S := layT a1 b1 l1 S) (ra := ra) (le := le) (g0 := g0) (Nat.le_refl _) (i := k - (97 + sN S)) (by show k - (97 + sN S) < sP S + 1; omega)).2
        have e1 : sN (layT a1 b1 l1 S) = sN S := rfl
        rw [e1] at w2
        rw [show 97 + sN S + (k - (97 + sN S)) = k by omega] at w1 w2
        rw [w1]
        refine Eq.trans ?_ w2.symm
        rw [show sQ (layT a1 b1 l1 S) (k - (97 + sN S)) = sQ S (k - (97 + sN S)) from va_up_ne _ _ (by omega)]
  · exact absurd (Int32.le_refl _) hc
