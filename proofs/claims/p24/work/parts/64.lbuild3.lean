/-! the two villages built -/
def PL (cy : Nat → ClassId) (ad : Nat → Nat) : CtP := fun r n' ad' g' => r = some (.ref (ad' 54)) ∧ (∀ k, k < 54 → ad' k = ad k) ∧ ∃ (S : tS) (ra le : Nat → Int32) (g0 : Nat → va_E), n' = 97 + sN S + sP S ∧ 1 ≤ sN S ∧ sN S ≤ 8 ∧ sP S ≤ 8 ∧ IJ cy ad' S ra le g0 0 ∧ ∀ k, k < n' → g' k = jW cy ad' S S ra le g0 k
theorem dbJ_0 : dbJ S0 := fun a b _ _ => by
  show (0 : Int32) = 0 - 0
  decide
theorem wok_0 : wok zW zW := ⟨fun _ _ => by
  show 0 ≤ (0 : Int32).toInt ∧ (0 : Int32).toInt ≤ 20
  decide, fun _ _ => by
  show 0 ≤ (0 : Int32).toInt ∧ (0 : Int32).toInt ≤ 3
  decide⟩
set_option maxRecDepth 100000 in
set_option maxHeartbeats 4000000 in
theorem c_L_build (l : Launch) {z0 n : Nat} {D : va_G} {cy : Nat → ClassId} {ad : Nat → Nat} {g g00 : Nat → va_E} (hn : n = 54) (hg : g = gV cy ad 4 S0 g00) (hB : BJ cy ad S0 zW zW g00) : CtG l yL_build cL_build 9 (some (FieldType.object "RoofWaterLaw$Sim")) { frames := 14, cells := 110, slots := 600, locals := 300 } z0 D cy n ad g [.ref (ad 0), .ref (cy 9)] (PL cy ad) 110 600 := by
  refine ct_of (by decide +kernel) 7 [some (.ref (ad 0)), some (.ref (cy 9)), none, none, none, none, none, none, none] (Nat.le_of_ble_eq_true rfl) rfl ?_
  intro p e s m below meth c X hr hlk hnm
  generalize ([.ref (ad 0), .ref (cy 9)] : List Value).toArray = A at X ⊢
  subst hn
  have hx1 := X.2.2.2.2.2.2.2.1
  generalize hQ : MQ below (QcR z0 D (PL cy ad)) A s 110 600 (fun q => z0 ≤ q) = Q
  refine v_new (ci := 6) (fs := [.null, .null, .null, .null, .int 0, .int 0, .int 0, .int 0, .int 0]) X inU_X6 tyX6 tyX6_ok wk_L_9 wn_X6 wz_X6 rfl (by decide +kernel) ⟨by decide, by decide⟩ dL_build_0 ?_
  intro ad1 a1
  refine v_dup X dL_build_3 rfl ?_
  refine v_callIN (As := []) X (hx1 _ (List.mem_cons_of_mem _ (List.mem_cons_of_mem _ (List.mem_cons_of_mem _ List.mem_cons_self)))) wi_X6_init wz_X6 wc_X6_init rfl ⟨by decide, by decide, (show (parseMethodDescriptor yX6_init.desc).map (fun d => d.parameters.length) = some 0 from by decide +kernel)⟩ dL_build_4 (c_X6_init l rfl (va_up_self _ _ _)) rfl (Nat.le_of_ble_eq_true rfl) ⟨rfl, rfl, Nat.le_of_ble_eq_true rfl, Nat.le_of_ble_eq_true rfl, by decide, by decide⟩ ?_
  rintro r2 n2 ad2 g2 ⟨rfl, rfl, a2, w2⟩
  have ha : ∀ j, j < 54 → ad2 j = ad j := fun j hj => (a2 j (by omega)).trans (a1 j hj)
  refine vV.eqn (pc' := 7) (st' := [.ref (ad1 54)]) ?_ rfl rfl rfl
  refine vV.eqw (ad' := ad2) (g' := jW cy ad2 S0 S0 zW zW g00) (fun _ _ => rfl) (fun k hk => ?_) ?_
  · rw [w2 k hk, jW_c (Nat.zero_le _) (Nat.zero_le _)]
    refine gS_ext rfl rfl (fun q => ?_) (fun _ => rfl) (fun _ => rfl) (fun _ _ => rfl) (fun _ => rfl) (fun _ _ => rfl) (fun _ => rfl) (fun _ => rfl) (fun _ _ => rfl) (fun _ _ => rfl)
    have q' : k < 54 := by
      rcases q with q | q
      · exact q
      · have : 97 + 0 + 0 ≤ k := q
        omega
    rw [jW_gV ha, va_up_ne _ _ (by omega), hg]
  rw [← a1 0 (by omega), ← a2 0 (by omega), ← a2 54 (by omega)]
  refine v_astore2 X rfl (Nat.le_of_ble_eq_true rfl) dL_build_7 ?_
  refine v_ico (v := 0) X dL_build_8 (by decide) ?_
  refine v_istore3 X rfl (Nat.le_of_ble_eq_true rfl) dL_build_9 ?_
  refine vV.wd (k := 43 + 0) (n' := 203 + 2 * 0) (by omega) (by omega) ?_
  refine vV.le (A := [some (.ref (ad2 0)), some (.ref (cy 9)), some (.ref (ad2 54)), some (.int (nI 0)), none, none, none, none, none]) ⟨rfl, rfl, rfl, rfl, trivial⟩ ?_
  refine v_bA (l := l) X (ad0 := ad2) (fun ad ra le g0 had hwk hB => ?_) 28 0 rfl ad2 zW zW g00 (fun _ _ => rfl) wok_0 (fun _ _ => ⟨rfl, rfl⟩) (hB.adr ha)
  refine v_ico (v := 1) X dL_build_118 (by decide) ?_
  refine v_aload1 X dL_build_119 rfl ?_
  refine v_ico (v := 3) X dL_build_120 (by decide) ?_
  refine v_cell X dL_build_121 (j := 3) rfl (by omega) (Nat.le_of_ble_eq_true rfl) ⟨(Nat.le_of_ble_eq_true rfl), (Nat.le_of_ble_eq_true rfl), (by first | (show _ ≤ 110; omega) | (show _ ≤ 600; omega)), (by first | (show _ ≤ 110; omega) | (show _ ≤ 600; omega))⟩ fun x121 => ?_
  refine v_bip (v := 8) X dL_build_124 (by decide) ?_
  refine v_below X dL_build_126 (N := 8) rfl (by omega) (by omega) (Nat.le_of_ble_eq_true rfl) ⟨(Nat.le_of_ble_eq_true rfl), (Nat.le_of_ble_eq_true rfl), (by first | (show _ ≤ 110; omega) | (show _ ≤ 600; omega)), (by first | (show _ ≤ 110; omega) | (show _ ≤ 600; omega))⟩ ?_
  generalize hb : bel (x121) 8 = b
  have hb8 : b < 8 := by rw [← hb]; exact bel_lt _ (by omega)
  refine v_iadd X dL_build_129 ?_
  refine vV.top (w := .int (nI (b + 1))) (congrArg Value.int ((nI_add 1 b).trans (by rw [Nat.add_comm]))) ?_
  refine v_istore3 X rfl (Nat.le_of_ble_eq_true rfl) dL_build_130 ?_
  refine v_ico (v := 0) X dL_build_131 (by decide) ?_
  refine v_istore4 X rfl (Nat.le_of_ble_eq_true rfl) dL_build_132 ?_
  generalize hN : b + 1 = N
  have hN1 : 1 ≤ N := by omega
  have hN8 : N ≤ 8 := by omega
  refine vV.wd (k := 71 + 2 * 0) (n' := 259 + 21 * 0) (by omega) (by omega) ?_
  refine vV.le (A := [some (.ref (ad 0)), some (.ref (cy 9)), some (.ref (ad 54)), some (.int (nI N)), some (.int (nI 0)), none, none, none, none]) ⟨rfl, rfl, rfl, rfl, rfl, trivial⟩ ?_
  refine v_bB (l := l) X hN8 (ra := ra) (le := le) (g0 := g0) (ad0 := ad2) (fun ad S cells slots had hSN hSP hI hc hs => ?_) N 0 (by omega) ad S0 had rfl rfl ⟨S0_ok, ⟨dbJ_0, cons_0⟩, hwk, rfl, hB⟩
  refine v_ico (v := 0) X dL_build_273 (by decide) ?_
  refine v_istore4 X rfl (Nat.le_of_ble_eq_true rfl) dL_build_274 ?_
  refine vV.le (A := [some (.ref (ad 0)), some (.ref (cy 9)), some (.ref (ad 54)), some (.int (nI N)), some (.int (nI 0)), none, none, none, none]) ⟨rfl, rfl, rfl, rfl, rfl, trivial⟩ ?_
  refine v_bC (l := l) X hN1 hN8 (by omega) (by omega) (fun S hSN hSP hI => ?_) N 0 (by omega) S hSN hSP hI
  have h386 : ∀ P0 : Nat, P0 ≤ 8 → (N < 2 → P0 = 0) → vV p l e { frames := 14, cells := 110, slots := 600, locals := 300 } s m A below meth c 9 z0 D cells slots Q (97 + sN S + sP S) ad (jW cy ad S S ra le g0) 386 [some (.ref (ad 0)), some (.ref (cy 9)), some (.ref (ad 54)), some (.int (nI N)), none, none, none, none, none] [.int (nI P0)] := by
    intro P0 hP0 h2
    refine v_istore4 X rfl (Nat.le_of_ble_eq_true rfl) dL_build_386 ?_
    refine v_ico (v := 0) X dL_build_388 (by decide) ?_
    refine v_istore5 X rfl (Nat.le_of_ble_eq_true rfl) dL_build_389 ?_
    refine vV.wd (k := 87 + 2 * 0) (n' := 427 + 18 * 0) (by omega) (by omega) ?_
    refine vV.le (A := [some (.ref (ad 0)), some (.ref (cy 9)), some (.ref (ad 54)), some (.int (nI N)), some (.int (nI P0)), some (.int (nI 0)), none, none, none]) ⟨rfl, rfl, rfl, rfl, rfl, rfl, trivial⟩ ?_
    refine v_bD (l := l) X hN1 hN8 hP0 h2 (ad0 := ad2) (fun ad3 S cells slots had3 hSN hSP hI hc hs => ?_) P0 0 (by omega) ad S had hSN hSP hI
    refine v_aload2 X dL_build_494 rfl ?_
    rw [← hQ]
    exact (v_aret X hr (Or.inl ⟨_, rfl⟩) hlk dL_build_495 ⟨rfl, fun k hk => (had3 k hk).trans (ha k hk), S, ra, le, g0, rfl, by omega, by omega, by omega, hI, fun _ _ => rfl⟩).wd hc hs
  refine v_iload3 X dL_build_366 rfl ?_
  refine v_ico (v := 2) X dL_build_367 (by decide) ?_
  refine v_icmp_ge (tgt := 375) X dL_build_368 (by decide) (fun h5 => ?_) (fun h5 => ?_)
  · refine v_aload1 X dL_build_375 rfl ?_
    refine v_bip (v := 9) X dL_build_376 (by decide) ?_
    refine v_cell X dL_build_378 (j := 9) rfl (by omega) (Nat.le_of_ble_eq_true rfl) ⟨(Nat.le_of_ble_eq_true rfl), (Nat.le_of_ble_eq_true rfl), (by first | (show _ ≤ 110; omega) | (show _ ≤ 600; omega)), (by first | (show _ ≤ 110; omega) | (show _ ≤ 600; omega))⟩ fun x378 => ?_
    refine v_bip (v := 9) X dL_build_381 (by decide) ?_
    refine v_below X dL_build_383 (N := 9) rfl (by omega) (by omega) (Nat.le_of_ble_eq_true rfl) ⟨(Nat.le_of_ble_eq_true rfl), (Nat.le_of_ble_eq_true rfl), (by first | (show _ ≤ 110; omega) | (show _ ≤ 600; omega)), (by first | (show _ ≤ 110; omega) | (show _ ≤ 600; omega))⟩ ?_
    exact h386 _ (by have := bel_lt x378 (N := 9) (by omega); omega) (fun q => absurd h5 (nIge (N := 2) q (by omega)))
  · refine v_ico (v := 0) X dL_build_371 (by decide) ?_
    refine v_goto (tgt := 386) X dL_build_372 (by decide) ?_
    exact h386 0 (by omega) (fun _ => rfl)
