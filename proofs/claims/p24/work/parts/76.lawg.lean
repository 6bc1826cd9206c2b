/-! the law: one time, and fifty -/
section LH
variable {l : Launch} {p : Program} {e : Env} {s : State} {m : MethodId} {A : Array Value} {below : List Frame} {meth : Method} {c : Code} {Q : State → Prop} {z0 n cells slots t w M N P d h : Nat} {D : va_G} {cy : Nat → ClassId} {ad : Nat → Nat} {S S' : tS} {ra le : Nat → Int32} {g0 : Nat → va_E} {vL : Int32}
theorem v_half (X : vCx p s m A c cL_law RL 31 z0 D cy) (ho : ok S') (hwk : wok ra le) (hd : sM S' 0 = nI d) (hd9 : d ≤ 1000) (hN' : sN S' = N) (hP' : sP S' = P) (hn : n = 97 + N + P) (hN8 : N ≤ 8) (hP8 : P ≤ 8) (hh : h < N) (hM : M = n + 1 + N + 1 + 1 + N + 1) (hB : BJ cy ad S' ra le g0) (hSN : SN cy N P n ad S g0) (hc : cells ≤ 600104) (hs : slots ≤ 7301314) (hw28 : w < 28)
    (h0 : sM S' 0 = nI t + 1) (h4 : sM S' 4 = sM S 4) (hop : openS S' = openS S) (hcons : cons S')
    (hl1 : vL = 1 ↔ ¬ sH S' h 9 = sH S h 9) (hl7 : sH S' h 7 = sH S h 7 ↔ sH S' h 9 = sH S h 9) (hld : ¬ vL ≤ 1 → (dtt ra le h (sH S' h 9) 200 1 S').1 = vL - 1)
    (how : ∀ x y : Int32, ¬ lsm x y S' P < debtS x y S' - debtS x y S ∧ -(debtS x y S' - debtS x y S) ≤ lsm x y S' P)
    (chk : ∀ k, k < N → ∃ u G : Nat, u ≤ 27 ∧ G ≤ 20 ∧ sH S' k 7 - sH S k 7 = nI u ∧ sH S' k 8 - sH S k 8 = nI G ∧ ¬ 3 * sH S k 3 < nI u ∧ ¬ sH S k 4 < nI G ∧ (0 < u → G = 0) ∧ ¬ sH S' k 2 < 0 ∧ ¬ sH S k 1 < sH S' k 2 ∧ sH S' k 9 = sH S k 9 + (if 0 < u then 1 else 0) ∧ sH S' k 5 = jmin 10 (sH S k 5 + le w) ∧ sH S' k 6 = sH S k 6 ∧ sH S' k 1 = sH S k 1 ∧ ((∀ p, p < P → sQ S' p 0 ≠ nI k ∧ sQ S' p 1 ≠ nI k) → (0 < u → sH S' k 2 = 0) ∧ (0 < G → sH S k 1 ≤ 2 * sH S' k 2)))
    (hr : sM S' 1 = sM S 1 + rsm S (ra w) N) (hne : sM S' 3 = sM S 3 + nsm S N - (sumS 7 S' - sumS 7 S)) (hp : ∀ p, p < P → ∃ F : Int32, pOk (sQ S p) (sQ S' p) F) (hp2 : ∀ p, p < P → 1 ≤ (sQ S p 2).toInt ∧ (sQ S p 2).toInt ≤ 50)
    (kk : ∀ g : Nat → va_E, BJ cy ad S' ra le g → vV p l e room_1 s m A below meth c 31 z0 D cells slots Q M ad (jW cy ad S' S' ra le g) 29 [some (.ref (cy 9)), some (.ref (ad 0)), some (.ref (ad 54)), some (.int (nI N)), some (.int (nI (t + 1))), none, none, none, none, none, none, none, none, none, none, none, none, none, none, none, none, none, none, none, none, none, none, none, none, none, none] []) :
    vV p l e room_1 s m A below meth c 31 z0 D cells slots Q M ad (jW cy ad S' S' ra le g0) 320 [some (.ref (cy 9)), some (.ref (ad 0)), some (.ref (ad 54)), some (.int (nI N)), some (.int (nI t)), none, some (.ref (ad n)), some (.ref (ad (n + 1 + N))), some (.ref (ad (n + 1 + N + 1))), some (.int (nI h)), some (.int vL), some (.int (sumS 7 S' - sumS 7 S)), some (.int (sumS 2 S')), some (.int (sM S' 2 - sM S 2)), some (.ref (ad (n + 1 + N + 1 + 1 + N))), some (.ref (ad (56 + w))), some (.int (sumS 7 S' - sumS 7 S)), none, none, none, none, none, none, none, none, none, none, none, none, none, none] [] := by
  refine v_l7a (l := l) X ho hN' hP' hn hM hB hSN hc hs h0 h4 hop hcons ?_
  refine v_l7b (l := l) X ho hwk hd hd9 hN' hP' hn hN8 hP8 hh hM hB hSN hc hs hl1 hl7 hld (fun g hB hSN => ?_)
  subst hN'
  subst hP'
  refine v_l8a (l := l) X ho hN8 hP8 hn hM hc hs hw28 hB hSN how chk ?_
  exact v_l9 (l := l) X ho hN8 hP8 hn hM hc hs hB hSN hr hne hp hp2 (kk g hB)
theorem noP {S S' : tS} {P k : Nat} (ho : ok S) (hP : sP S = P) (hq : ∀ p, p < P → ∀ w, w ≠ 4 → w ≠ 5 → sQ S' p w = sQ S p w) (h : ∀ p, p < P → sQ S' p 0 ≠ nI k ∧ sQ S' p 1 ≠ nI k) : noPipe S k := fun p hp => by
  obtain ⟨a, b⟩ := h p (by omega)
  obtain ⟨-, -, -, e0, e1, -⟩ := okQ_ends ho hp
  rw [hq p (by omega) 0 (by decide) (by decide), e0] at a
  rw [hq p (by omega) 1 (by decide) (by decide), e1] at b
  exact ⟨fun q => a (by rw [q]), fun q => b (by rw [q])⟩
set_option maxRecDepth 100000 in
set_option maxHeartbeats 4000000 in
theorem v_iter (X : vCx p s m A c cL_law RL 31 z0 D cy) (hN1 : 1 ≤ N) (hN8 : N ≤ 8) (hP8 : P ≤ 8) (ht : t < 50) (hn : n = 97 + N + P) (hc : cells + 21 ≤ 600104) (hs : slots + 181 ≤ 7301314)
    (kk : ∀ (ad : Nat → Nat) (S : tS) (ra le : Nat → Int32) (g0 : Nat → va_E), sN S = N → sP S = P → IJ cy ad S ra le g0 (t + 1) → vV p l e room_1 s m A below meth c 31 z0 D (cells + 21) (slots + 181) Q n ad (jW cy ad S S ra le g0) 29 [some (.ref (cy 9)), some (.ref (ad 0)), some (.ref (ad 54)), some (.int (nI N)), some (.int (nI (t + 1))), none, none, none, none, none, none, none, none, none, none, none, none, none, none, none, none, none, none, none, none, none, none, none, none, none, none] [])
    (ad : Nat → Nat) (S : tS) (ra le : Nat → Int32) (g0 : Nat → va_E) (hSN : sN S = N) (hSP : sP S = P) (hI : IJ cy ad S ra le g0 t) :
    vV p l e room_1 s m A below meth c 31 z0 D cells slots Q n ad (jW cy ad S S ra le g0) 29 [some (.ref (cy 9)), some (.ref (ad 0)), some (.ref (ad 54)), some (.int (nI N)), some (.int (nI t)), none, none, none, none, none, none, none, none, none, none, none, none, none, none, none, none, none, none, none, none, none, none, none, none, none, none] [] := by
  have hx16 : nI t - nI t / 16 * 16 = nI (t % 16) := pk_rem (d := 16) (by omega) (by omega) (by omega)
  refine v_iload X dL_law_29 rfl ?_
  refine v_bip (v := 50) X dL_law_31 (by decide) ?_
  refine v_icmp_ge (tgt := 1181) X dL_law_33 (by decide) (fun h5 => ?_) (fun h5 => ?_)
  · exact absurd h5 (nIge (N := 50) ht (by omega))
  refine v_aload0 X dL_law_36 rfl ?_
  refine v_iload X dL_law_37 rfl ?_
  refine v_bip (v := 16) X dL_law_39 (by decide) ?_
  refine v_irem X dL_law_41 (by decide) ?_
  refine v_cell X dL_law_42 (j := t % 16) hx16 (by omega) (Nat.le_of_ble_eq_true rfl) ⟨(Nat.le_of_ble_eq_true rfl), (Nat.le_of_ble_eq_true rfl), (by first | (show _ ≤ 600104; omega) | (show _ ≤ 7301314; omega)), (by first | (show _ ≤ 600104; omega) | (show _ ≤ 7301314; omega))⟩ fun x42 => ?_
  refine v_iload X dL_law_45 rfl ?_
  refine v_bip (v := 16) X dL_law_47 (by decide) ?_
  refine v_idiv X dL_law_49 (by decide) ?_
  refine v_ico (v := 3) X dL_law_50 (by decide) ?_
  refine v_imul X dL_law_51 ?_
  refine v_ishr X dL_law_52 ?_
  refine v_bip (v := 67) X dL_law_53 (by decide) ?_
  refine v_iload X dL_law_55 rfl ?_
  refine v_imul X dL_law_57 ?_
  refine v_iadd X dL_law_58 ?_
  refine v_istore5 X rfl (Nat.le_of_ble_eq_true rfl) dL_law_59 ?_
  refine v_aload1 X dL_law_61 rfl ?_
  refine v_aload2 X dL_law_62 rfl ?_
  refine v_iload X dL_law_63 rfl ?_
  generalize x42 >>> (nI t / 16 * 3 &&& 31) + 67 * nI t = x
  refine cl_L_98 X dL_law_65 (c_L_act l (S := S) (d := t) (by omega) hI (by omega)) (Nat.le_of_ble_eq_true rfl) ⟨rfl, rfl, Nat.le_of_ble_eq_true rfl, Nat.le_of_ble_eq_true rfl, by show _ ≤ 600104; omega, by show _ ≤ 7301314; omega⟩ ?_
  rintro r n' ad2 g2 ⟨rfl, rfl, a2, S1, ra1, le1, g1, e1, e2, hI1, w2⟩
  refine vV.eqn (pc' := 68) (st' := [.int 1]) ?_ rfl rfl rfl
  refine vV.eqw (ad' := ad2) (g' := jW cy ad2 S1 S1 ra1 le1 g1) (fun _ _ => rfl) (fun k hk => (w2 k hk).symm) ?_
  rw [← a2 0 (by omega) (by omega), ← a2 54 (by omega) (by omega)]
  clear w2 a2 hI hx16
  refine v_if_ne (tgt := 73) X dL_law_68 (by decide) (fun _ => ?_) (fun hc => absurd hc (by decide))
  obtain ⟨ho, hdb, hwk, hd, hB⟩ := hI1
  have hN : sN S1 = N := by omega
  have hP : sP S1 = P := by omega
  clear e1 e2 hSN hSP
  subst hN
  subst hP
  refine v_l2 (l := l) X ho hN8 hn hB (by omega) (by omega) (fun ad g _ hB hw1 hr1 => ?_)
  have L1 : loc n' (n' + 1 + sN S1) (fun ad g => g n' = aA cy (sN S1) (rf ad (n' + 1) (sN S1)) ∧ rows cy (n' + 1) (sN S1) 10 g (sN S1) (sH S1)) := fun ad ad' g g' ha hg h => ⟨by rw [hg n' (by omega) (by omega), h.1, rf_ad (fun i hi => ha _ (by omega))], fun k hk => by
    rw [hg (n' + 1 + k) (by omega) (by omega)]
    exact h.2 k hk⟩
  refine v_l3 (l := l) X ho hP8 (k6 := n') (M := n' + 1 + sN S1) hn (by omega) (by omega) L1 hB ⟨hw1, hr1⟩ (by omega) (by omega) (fun ad g hB hC1 hp3 => ?_)
  have L2 : loc n' (n' + 1 + sN S1 + 1) (fun ad g => (g n' = aA cy (sN S1) (rf ad (n' + 1) (sN S1)) ∧ rows cy (n' + 1) (sN S1) 10 g (sN S1) (sH S1)) ∧ rowp cy (n' + 1 + sN S1) (sP S1) g (sP S1) (fun p => sQ S1 p 4)) := fun ad ad' g g' ha hg h => ⟨L1 ad ad' g g' (fun j hj => ha j (by omega)) (fun k h1 h2 => hg k h1 (by omega)) h.1, by
    obtain ⟨f, h1, h2⟩ := h.2
    exact ⟨f, (hg _ (by omega) (by omega)).trans h1, h2⟩⟩
  refine v_l4 (l := l) X ho hN8 (k6 := n') (k7 := n' + 1 + sN S1) (M := n' + 1 + sN S1 + 1) hn (by omega) (by omega) (by omega) L2 hB ⟨hC1, hp3⟩ (by omega) (by omega) (fun ad g hB hC2 hw4 hr5 => ?_)
  have L3 : loc n' (n' + 1 + sN S1 + 1 + 1 + sN S1) (fun ad g => ((g n' = aA cy (sN S1) (rf ad (n' + 1) (sN S1)) ∧ rows cy (n' + 1) (sN S1) 10 g (sN S1) (sH S1)) ∧ rowp cy (n' + 1 + sN S1) (sP S1) g (sP S1) (fun p => sQ S1 p 4)) ∧ g (n' + 1 + sN S1 + 1) = aA cy (sN S1) (rf ad (n' + 1 + sN S1 + 1 + 1) (sN S1)) ∧ rows cy (n' + 1 + sN S1 + 1 + 1) (sN S1) (sN S1) g (sN S1) (fun k j => debtS (nI k) (nI j) S1)) := fun ad ad' g g' ha hg h => ⟨L2 ad ad' g g' (fun j hj => ha j (by omega)) (fun k h1 h2 => hg k h1 (by omega)) h.1, by rw [hg _ (by omega) (by omega), h.2.1, rf_ad (fun i hi => ha _ (by omega))], fun k hk => by
    rw [hg (n' + 1 + sN S1 + 1 + 1 + k) (by omega) (by omega)]
    exact h.2.2 k hk⟩
  refine v_l5 (l := l) X ho hwk hd (by omega) hN1 (k6 := n') (k7 := n' + 1 + sN S1) (k8 := n' + 1 + sN S1 + 1) (M := n' + 1 + sN S1 + 1 + 1 + sN S1) hn (by omega) (by omega) (by omega) (by omega) L3 hB ⟨hC2, hw4, hr5⟩ (by omega) (by omega) (fun ad g h hh hB hC3 hp6 => ?_)
  obtain ⟨hoS, hsN, hsP, hsM⟩ := dayS_ok hwk ho
  obtain ⟨⟨⟨c1, c2⟩, c3⟩, c4, c5⟩ := hC3
  refine v_l6 (l := l) X ho hwk hd (by omega) (by omega) hB (by omega) (by omega) ?_
  refine v_half (l := l) (S := S1) (S' := dayS ra1 le1 S1) (d := t + 1) X hoS hwk (by rw [hsM, hd, nI_1]) (by omega) hsN hsP hn hN8 hP8 hh rfl (hB.to (by omega) (by omega)) ⟨c1, c2, c3, c4, c5, hp6⟩ (by omega) (by omega) (dayN_lt S1) (by rw [hsM, hd]) cart_eq (open_eq hwk ho) (day_cons hwk ho hdb.2) lasts_1 ?_ (fun q => lasts_d q) (fun x y => owes_chk hwk ho x y) (fun k hk => ?_) (roofs_eq hwk ho) (needs_eq hwk ho) (fun p hp => pipe_chk hwk ho hp) (fun p hp => ?_) (fun g hB => ?_)
  · obtain ⟨u, u1, u2, u3⟩ := day_one hwk ho hh
    rw [← u3, u2]
    exact add_nI_eq (by omega)
  · obtain ⟨u, G, b1, b2, b3, b4, b5, b6, b7, b8, b9, b10, b11, b12, b13, b14⟩ := day_chk hwk ho hk
    exact ⟨u, G, b1, b2, b3, b4, b5, b6, b7, b8, b9, b10, b11, b12, b13, fun q => b14 (noP ho rfl (fun p hp w h4 h5 => by
      obtain ⟨F, hF⟩ := pipe_chk (ra := ra1) (le := le1) hwk ho hp
      exact hF.2.2.2.2.2 w h4 h5) q)⟩
  · obtain ⟨-, -, -, -, -, l1, l2, -⟩ := okQ_ends ho hp
    exact ⟨l1, l2⟩
  · refine vV.cut (n' := n') (ad' := ad) (g' := jW cy ad (dayS ra1 le1 S1) (dayS ra1 le1 S1) ra1 le1 g) (by omega) (fun _ _ => rfl) (fun _ _ => rfl) ?_
    exact (kk ad (dayS ra1 le1 S1) ra1 le1 g hsN hsP ⟨hoS, ⟨db_day hwk ho hdb.1, day_cons hwk ho hdb.2⟩, hwk, by rw [hsM, hd, nI_1], hB⟩).wd (by omega) (by omega)
set_option maxRecDepth 100000 in
set_option maxHeartbeats 4000000 in
theorem law_loop (X : vCx p s m A c cL_law RL 31 z0 D cy) (hN1 : 1 ≤ N) (hN8 : N ≤ 8) (hP8 : P ≤ 8) (hn : n = 97 + N + P)
    (hend : ∀ (n cells slots : Nat) (ad : Nat → Nat) (g : Nat → va_E), cells ≤ 600104 → slots ≤ 7301314 → ∀ L : List (Option Value), vV p l e room_1 s m A below meth c 31 z0 D cells slots Q n ad g 1186 L [.int 1]) :
    ∀ (q t : Nat), q + t = 50 → ∀ (ad : Nat → Nat) (S : tS) (ra le : Nat → Int32) (g0 : Nat → va_E), sN S = N → sP S = P → IJ cy ad S ra le g0 t → vV p l e room_1 s m A below meth c 31 z0 D (164 + 21 * t) (1069 + 181 * t) Q n ad (jW cy ad S S ra le g0) 29 [some (.ref (cy 9)), some (.ref (ad 0)), some (.ref (ad 54)), some (.int (nI N)), some (.int (nI t)), none, none, none, none, none, none, none, none, none, none, none, none, none, none, none, none, none, none, none, none, none, none, none, none, none, none] [] := by
  intro q
  induction q with
  | zero =>
    intro t ht ad S ra le g0 hSN hSP hI
    have : t = 50 := by omega
    subst this
    refine v_iload X dL_law_29 rfl ?_
    refine v_bip (v := 50) X dL_law_31 (by decide) ?_
    refine v_icmp_ge (tgt := 1181) X dL_law_33 (by decide) (fun _ => ?_) (fun hc => absurd (Int32.le_refl _) hc)
    refine v_aload2 X dL_law_1181 rfl ?_
    refine v_aload1 X dL_law_1182 rfl ?_
    refine cl_L_135 X dL_law_1183 (c_X6_isSame l (S := S) (d := 50) (by omega) hI (by omega) (by omega)) (jS_s hI.1 (by omega)) rfl (Nat.le_of_ble_eq_true rfl) ⟨rfl, rfl, Nat.le_of_ble_eq_true rfl, Nat.le_of_ble_eq_true rfl, by show _ ≤ 600104; omega, by show _ ≤ 7301314; omega⟩ ?_
    rintro r n' ad' g' rfl
    exact hend n' _ _ ad' g' (by omega) (by omega) _
  | succ q ih =>
    intro t ht ad S ra le g0 hSN hSP hI
    exact v_iter (l := l) X hN1 hN8 hP8 (by omega) hn (by omega) (by omega) (fun ad S ra le g0 h1 h2 h3 => (ih (t + 1) (by omega) ad S ra le g0 h1 h2 h3).wd (by omega) (by omega)) ad S ra le g0 hSN hSP hI
end LH
