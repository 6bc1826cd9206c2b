/-! the law: the houses, the sums, the pipes behind the day -/
section LG
variable {l : Launch} {p : Program} {e : Env} {s : State} {m : MethodId} {A : Array Value} {below : List Frame} {meth : Method} {c : Code} {Q : State → Prop} {z0 n cells slots t w M : Nat} {D : va_G} {cy : Nat → ClassId} {ad : Nat → Nat} {S S' : tS} {ra le : Nat → Int32} {g0 : Nat → va_E} {ms : Int32}
set_option maxRecDepth 100000 in
set_option maxHeartbeats 4000000 in
theorem v_l8b (X : vCx p s m A c cL_law RL 31 z0 D cy) (ho : ok S') (hN8 : sN S' ≤ 8) (hP8 : sP S' ≤ 8) (hn : n = 97 + sN S' + sP S') (hM : M = n + 1 + sN S' + 1 + 1 + sN S' + 1) (hc : cells ≤ 600104) (hs : slots ≤ 7301314) {k : Nat} {rA nA : Int32} (hk : k < sN S') (hw28 : w < 28) {u G : Nat} (hu : u ≤ 27) (hG : G ≤ 20) (hB : BJ cy ad S' ra le g0) (hSN : SN cy (sN S') (sP S') n ad S g0) (h3 : ¬ 3 * sH S k 3 < nI u) (h4 : ¬ sH S k 4 < nI G) (h5 : 0 < u → G = 0) (h6 : ¬ sH S' k 2 < 0) (h7 : ¬ sH S k 1 < sH S' k 2) (h8 : sH S' k 9 = sH S k 9 + (if 0 < u then 1 else 0)) (h9 : sH S' k 5 = jmin 10 (sH S k 5 + le w)) (h10 : sH S' k 6 = sH S k 6) (h11 : sH S' k 1 = sH S k 1) (kk : vV p l e room_1 s m A below meth c 31 z0 D cells slots Q M ad (jW cy ad S' S' ra le g0) 800 [some (.ref (cy 9)), some (.ref (ad 0)), some (.ref (ad 54)), some (.int (nI (sN S'))), some (.int (nI t)), none, some (.ref (ad n)), some (.ref (ad (n + 1 + sN S'))), some (.ref (ad (n + 1 + sN S' + 1))), none, none, none, none, none, some (.ref (ad (n + 1 + sN S' + 1 + 1 + sN S'))), some (.ref (ad (56 + w))), some (.int ms), some (.int rA), some (.int nA), some (.int (nI k)), some (.int (sH S' k 2)), some (.int (nI u)), some (.int (nI G)), none, none, none, none, none, none, none, none] []) : vV p l e room_1 s m A below meth c 31 z0 D cells slots Q M ad (jW cy ad S' S' ra le g0) 640 [some (.ref (cy 9)), some (.ref (ad 0)), some (.ref (ad 54)), some (.int (nI (sN S'))), some (.int (nI t)), none, some (.ref (ad n)), some (.ref (ad (n + 1 + sN S'))), some (.ref (ad (n + 1 + sN S' + 1))), none, none, none, none, none, some (.ref (ad (n + 1 + sN S' + 1 + 1 + sN S'))), some (.ref (ad (56 + w))), some (.int ms), some (.int rA), some (.int nA), some (.int (nI k)), some (.int (sH S' k 2)), some (.int (nI u)), some (.int (nI G)), none, none, none, none, none, none, none, none] [] := by
  obtain ⟨hw1, hr2, -⟩ := id hSN
  obtain ⟨f, hf, hf2⟩ := hr2 k hk
  have f1 : f 1 = sH S k 1 := hf2 hk 1 (by decide)
  have f3 : f 3 = sH S k 3 := hf2 hk 3 (by decide)
  have f4 : f 4 = sH S k 4 := hf2 hk 4 (by decide)
  have f5 : f 5 = sH S k 5 := hf2 hk 5 (by decide)
  have f6 : f 6 = sH S k 6 := hf2 hk 6 (by decide)
  have f9 : f 9 = sH S k 9 := hf2 hk 9 (by decide)
  have h731 : ∀ b : Int32, b = (if 0 < u then 1 else 0) → vV p l e room_1 s m A below meth c 31 z0 D cells slots Q M ad (jW cy ad S' S' ra le g0) 731 [some (.ref (cy 9)), some (.ref (ad 0)), some (.ref (ad 54)), some (.int (nI (sN S'))), some (.int (nI t)), none, some (.ref (ad n)), some (.ref (ad (n + 1 + sN S'))), some (.ref (ad (n + 1 + sN S' + 1))), none, none, none, none, none, some (.ref (ad (n + 1 + sN S' + 1 + 1 + sN S'))), some (.ref (ad (56 + w))), some (.int ms), some (.int rA), some (.int nA), some (.int (nI k)), some (.int (sH S' k 2)), some (.int (nI u)), some (.int (nI G)), none, none, none, none, none, none, none, none] [.int b, .int (f 9), .int (sH S' k 9)] := by
    intro b hb
    refine v_iadd X dL_law_731 ?_
    refine v_icmp_ne (tgt := 798) X dL_law_732 (by decide) (fun hc => absurd (by rw [h8, f9, hb]) hc) (fun _ => ?_)
    refine v_aload1 X dL_law_735 rfl ?_
    refine v_iload X dL_law_736 rfl ?_
    refine v_ico (v := 5) X dL_law_738 (by decide) ?_
    refine cd_L_103 X dL_law_739 (c_house l (j := 5) (hB.R (by omega)) ho hk (by decide) (IN_0 (j := 5) (b := 9) (by decide) (by decide))) (jS_r hB (by omega)) rfl (Nat.le_of_ble_eq_true rfl) ⟨(Nat.le_of_ble_eq_true rfl), (Nat.le_of_ble_eq_true rfl), (by first | (show _ ≤ 600104; omega) | (show _ ≤ 7301314; omega)), (by first | (show _ ≤ 600104; omega) | (show _ ≤ 7301314; omega))⟩ ?_
    refine v_bip (v := 10) X dL_law_742 (by decide) ?_
    refine v_aload X dL_law_744 rfl ?_
    refine v_iload X dL_law_746 rfl ?_
    refine v_aaldR X dL_law_748 (jA ho (by omega) (by omega) hw1) rfl hk (by omega) ?_
    refine v_ico (v := 5) X dL_law_749 (by decide) ?_
    refine v_iald X dL_law_750 (jA ho (by omega) (by omega) hf) rfl (by decide) (by decide) ?_
    refine v_aload X dL_law_751 rfl ?_
    refine v_ico (v := 1) X dL_law_753 (by decide) ?_
    refine v_iald X dL_law_754 (jS_wr ho (by omega) hw28) rfl (by decide) (by decide) ?_
    refine v_iadd X dL_law_755 ?_
    refine v_mmin X dL_law_756 wm_L_130 wt_J9_min_7cf53 wz_J9 wc_J9_min_7cf53 ⟨(Nat.le_of_ble_eq_true rfl), (Nat.le_of_ble_eq_true rfl), (by first | (show _ ≤ 600104; omega) | (show _ ≤ 7301314; omega)), (by first | (show _ ≤ 600104; omega) | (show _ ≤ 7301314; omega))⟩ ?_
    refine vV.top (w := .int (jmin 10 (f 5 + le w))) rfl ?_
    refine v_icmp_ne (tgt := 798) X dL_law_759 (by decide) (fun hc => absurd (by rw [h9, f5]) hc) (fun _ => ?_)
    refine v_aload1 X dL_law_762 rfl ?_
    refine v_iload X dL_law_763 rfl ?_
    refine v_bip (v := 6) X dL_law_765 (by decide) ?_
    refine cd_L_103 X dL_law_767 (c_house l (j := 6) (hB.R (by omega)) ho hk (by decide) (IN_0 (j := 6) (b := 9) (by decide) (by decide))) (jS_r hB (by omega)) rfl (Nat.le_of_ble_eq_true rfl) ⟨(Nat.le_of_ble_eq_true rfl), (Nat.le_of_ble_eq_true rfl), (by first | (show _ ≤ 600104; omega) | (show _ ≤ 7301314; omega)), (by first | (show _ ≤ 600104; omega) | (show _ ≤ 7301314; omega))⟩ ?_
    refine v_aload X dL_law_770 rfl ?_
    refine v_iload X dL_law_772 rfl ?_
    refine v_aaldR X dL_law_774 (jA ho (by omega) (by omega) hw1) rfl hk (by omega) ?_
    refine v_bip (v := 6) X dL_law_775 (by decide) ?_
    refine v_iald X dL_law_777 (jA ho (by omega) (by omega) hf) rfl (by decide) (by decide) ?_
    refine v_icmp_ne (tgt := 798) X dL_law_778 (by decide) (fun hc => absurd (by rw [h10, f6]) hc) (fun _ => ?_)
    refine v_aload1 X dL_law_781 rfl ?_
    refine v_iload X dL_law_782 rfl ?_
    refine v_ico (v := 1) X dL_law_784 (by decide) ?_
    refine cd_L_103 X dL_law_785 (c_house l (j := 1) (hB.R (by omega)) ho hk (by decide) (IN_0 (j := 1) (b := 9) (by decide) (by decide))) (jS_r hB (by omega)) rfl (Nat.le_of_ble_eq_true rfl) ⟨(Nat.le_of_ble_eq_true rfl), (Nat.le_of_ble_eq_true rfl), (by first | (show _ ≤ 600104; omega) | (show _ ≤ 7301314; omega)), (by first | (show _ ≤ 600104; omega) | (show _ ≤ 7301314; omega))⟩ ?_
    refine v_aload X dL_law_788 rfl ?_
    refine v_iload X dL_law_790 rfl ?_
    refine v_aaldR X dL_law_792 (jA ho (by omega) (by omega) hw1) rfl hk (by omega) ?_
    refine v_ico (v := 1) X dL_law_793 (by decide) ?_
    refine v_iald X dL_law_794 (jA ho (by omega) (by omega) hf) rfl (by decide) (by decide) ?_
    refine v_icmp_eq (tgt := 800) X dL_law_795 (by decide) (fun _ => ?_) (fun hc => absurd (by rw [h11, f1]) hc)
    exact kk
  have h705 : vV p l e room_1 s m A below meth c 31 z0 D cells slots Q M ad (jW cy ad S' S' ra le g0) 705 [some (.ref (cy 9)), some (.ref (ad 0)), some (.ref (ad 54)), some (.int (nI (sN S'))), some (.int (nI t)), none, some (.ref (ad n)), some (.ref (ad (n + 1 + sN S'))), some (.ref (ad (n + 1 + sN S' + 1))), none, none, none, none, none, some (.ref (ad (n + 1 + sN S' + 1 + 1 + sN S'))), some (.ref (ad (56 + w))), some (.int ms), some (.int rA), some (.int nA), some (.int (nI k)), some (.int (sH S' k 2)), some (.int (nI u)), some (.int (nI G)), none, none, none, none, none, none, none, none] [] := by
    refine v_aload1 X dL_law_705 rfl ?_
    refine v_iload X dL_law_706 rfl ?_
    refine v_bip (v := 9) X dL_law_708 (by decide) ?_
    refine cd_L_103 X dL_law_710 (c_house l (j := 9) (hB.R (by omega)) ho hk (by decide) (IN_0 (j := 9) (b := 9) (by decide) (by decide))) (jS_r hB (by omega)) rfl (Nat.le_of_ble_eq_true rfl) ⟨(Nat.le_of_ble_eq_true rfl), (Nat.le_of_ble_eq_true rfl), (by first | (show _ ≤ 600104; omega) | (show _ ≤ 7301314; omega)), (by first | (show _ ≤ 600104; omega) | (show _ ≤ 7301314; omega))⟩ ?_
    refine v_aload X dL_law_713 rfl ?_
    refine v_iload X dL_law_715 rfl ?_
    refine v_aaldR X dL_law_717 (jA ho (by omega) (by omega) hw1) rfl hk (by omega) ?_
    refine v_bip (v := 9) X dL_law_718 (by decide) ?_
    refine v_iald X dL_law_720 (jA ho (by omega) (by omega) hf) rfl (by decide) (by decide) ?_
    refine v_iload X dL_law_721 rfl ?_
    refine v_if_le (tgt := 730) X dL_law_723 (by decide) (fun c1 => ?_) (fun c1 => ?_)
    · refine v_ico (v := 0) X dL_law_730 (by decide) ?_
      exact h731 0 (by rw [if_neg (fun q => absurd c1 (nI_nle q (by omega)))])
    · refine v_ico (v := 1) X dL_law_726 (by decide) ?_
      refine v_goto (tgt := 731) X dL_law_727 (by decide) ?_
      exact h731 1 (by rw [if_pos (Nat.pos_of_ne_zero (fun q => c1 (by rw [q]; decide)))])
  refine v_iload X dL_law_640 rfl ?_
  refine v_if_lt (tgt := 703) X dL_law_642 (by decide) (fun hc => absurd hc h6) (fun _ => ?_)
  refine v_iload X dL_law_645 rfl ?_
  refine v_aload X dL_law_647 rfl ?_
  refine v_iload X dL_law_649 rfl ?_
  refine v_aaldR X dL_law_651 (jA ho (by omega) (by omega) hw1) rfl hk (by omega) ?_
  refine v_ico (v := 1) X dL_law_652 (by decide) ?_
  refine v_iald X dL_law_653 (jA ho (by omega) (by omega) hf) rfl (by decide) (by decide) ?_
  refine v_icmp_gt (tgt := 703) X dL_law_654 (by decide) (fun hc => absurd (by rw [f1] at hc; exact hc) h7) (fun _ => ?_)
  refine v_iload X dL_law_657 rfl ?_
  refine v_if_lt (tgt := 703) X dL_law_659 (by decide) (fun hc => absurd hc (nI_pos (by omega))) (fun _ => ?_)
  refine v_iload X dL_law_662 rfl ?_
  refine v_ico (v := 3) X dL_law_664 (by decide) ?_
  refine v_aload X dL_law_665 rfl ?_
  refine v_iload X dL_law_667 rfl ?_
  refine v_aaldR X dL_law_669 (jA ho (by omega) (by omega) hw1) rfl hk (by omega) ?_
  refine v_ico (v := 3) X dL_law_670 (by decide) ?_
  refine v_iald X dL_law_671 (jA ho (by omega) (by omega) hf) rfl (by decide) (by decide) ?_
  refine v_imul X dL_law_672 ?_
  refine v_icmp_gt (tgt := 703) X dL_law_673 (by decide) (fun hc => absurd (by rw [f3] at hc; exact hc) h3) (fun _ => ?_)
  refine v_iload X dL_law_676 rfl ?_
  refine v_if_lt (tgt := 703) X dL_law_678 (by decide) (fun hc => absurd hc (nI_pos (by omega))) (fun _ => ?_)
  refine v_iload X dL_law_681 rfl ?_
  refine v_aload X dL_law_683 rfl ?_
  refine v_iload X dL_law_685 rfl ?_
  refine v_aaldR X dL_law_687 (jA ho (by omega) (by omega) hw1) rfl hk (by omega) ?_
  refine v_ico (v := 4) X dL_law_688 (by decide) ?_
  refine v_iald X dL_law_689 (jA ho (by omega) (by omega) hf) rfl (by decide) (by decide) ?_
  refine v_icmp_gt (tgt := 703) X dL_law_690 (by decide) (fun hc => absurd (by rw [f4] at hc; exact hc) h4) (fun _ => ?_)
  refine v_iload X dL_law_693 rfl ?_
  refine v_if_le (tgt := 705) X dL_law_695 (by decide) (fun c1 => ?_) (fun c1 => ?_)
  · exact h705
  refine v_iload X dL_law_698 rfl ?_
  refine v_if_le (tgt := 705) X dL_law_700 (by decide) (fun _ => h705) (fun hc => absurd ?_ hc)
  rw [h5 (Nat.pos_of_ne_zero (fun q => c1 (by rw [q]; decide)))]
  decide
set_option maxRecDepth 100000 in
set_option maxHeartbeats 4000000 in
theorem v_l8a (X : vCx p s m A c cL_law RL 31 z0 D cy) (ho : ok S') (hN8 : sN S' ≤ 8) (hP8 : sP S' ≤ 8) (hn : n = 97 + sN S' + sP S') (hM : M = n + 1 + sN S' + 1 + 1 + sN S' + 1) (hc : cells ≤ 600104) (hs : slots ≤ 7301314) (hw28 : w < 28) (hB : BJ cy ad S' ra le g0) (hSN : SN cy (sN S') (sP S') n ad S g0) (how : ∀ x y : Int32, ¬ lsm x y S' (sP S') < debtS x y S' - debtS x y S ∧ -(debtS x y S' - debtS x y S) ≤ lsm x y S' (sP S')) (chk : ∀ k, k < sN S' → ∃ u G : Nat, u ≤ 27 ∧ G ≤ 20 ∧ sH S' k 7 - sH S k 7 = nI u ∧ sH S' k 8 - sH S k 8 = nI G ∧ ¬ 3 * sH S k 3 < nI u ∧ ¬ sH S k 4 < nI G ∧ (0 < u → G = 0) ∧ ¬ sH S' k 2 < 0 ∧ ¬ sH S k 1 < sH S' k 2 ∧ sH S' k 9 = sH S k 9 + (if 0 < u then 1 else 0) ∧ sH S' k 5 = jmin 10 (sH S k 5 + le w) ∧ sH S' k 6 = sH S k 6 ∧ sH S' k 1 = sH S k 1 ∧ ((∀ p, p < sP S' → sQ S' p 0 ≠ nI k ∧ sQ S' p 1 ≠ nI k) → (0 < u → sH S' k 2 = 0) ∧ (0 < G → sH S k 1 ≤ 2 * sH S' k 2))) (kk : vV p l e room_1 s m A below meth c 31 z0 D cells slots Q M ad (jW cy ad S' S' ra le g0) 1072 [some (.ref (cy 9)), some (.ref (ad 0)), some (.ref (ad 54)), some (.int (nI (sN S'))), some (.int (nI t)), none, some (.ref (ad n)), some (.ref (ad (n + 1 + sN S'))), some (.ref (ad (n + 1 + sN S' + 1))), none, none, none, none, none, some (.ref (ad (n + 1 + sN S' + 1 + 1 + sN S'))), some (.ref (ad (56 + w))), some (.int ms), some (.int (rsm S (ra w) (sN S'))), some (.int (nsm S (sN S'))), none, none, none, none, none, none, none, none, none, none, none, none] []) : vV p l e room_1 s m A below meth c 31 z0 D cells slots Q M ad (jW cy ad S' S' ra le g0) 533 [some (.ref (cy 9)), some (.ref (ad 0)), some (.ref (ad 54)), some (.int (nI (sN S'))), some (.int (nI t)), none, some (.ref (ad n)), some (.ref (ad (n + 1 + sN S'))), some (.ref (ad (n + 1 + sN S' + 1))), none, none, none, none, none, some (.ref (ad (n + 1 + sN S' + 1 + 1 + sN S'))), some (.ref (ad (56 + w))), some (.int ms), none, none, none, none, none, none, none, none, none, none, none, none, none, none] [] := by
  have hO : ∀ (q k : Nat), q + k = sN S' → vV p l e room_1 s m A below meth c 31 z0 D cells slots Q M ad (jW cy ad S' S' ra le g0) 542 [some (.ref (cy 9)), some (.ref (ad 0)), some (.ref (ad 54)), some (.int (nI (sN S'))), some (.int (nI t)), none, some (.ref (ad n)), some (.ref (ad (n + 1 + sN S'))), some (.ref (ad (n + 1 + sN S' + 1))), none, none, none, none, none, some (.ref (ad (n + 1 + sN S' + 1 + 1 + sN S'))), some (.ref (ad (56 + w))), some (.int ms), some (.int (rsm S (ra w) k)), some (.int (nsm S k)), some (.int (nI k)), none, none, none, none, none, none, none, none, none, none, none] [] := by
    intro q
    induction q with
    | zero =>
      intro k hk
      have : k = sN S' := by omega
      subst this
      refine v_iload X dL_law_542 rfl ?_
      refine v_iload3 X dL_law_544 rfl ?_
      refine v_icmp_ge (tgt := 1072) X dL_law_545 (by decide) (fun h5 => ?_) (fun h5 => ?_)
      · exact vV.le (by exact ⟨rfl, rfl, rfl, rfl, rfl, rfl, rfl, rfl, rfl, rfl, rfl, rfl, rfl, trivial⟩) kk
      · exact absurd (Int32.le_refl _) h5
    | succ q ih =>
      intro k hqk
      have hk : k < sN S' := by omega
      obtain ⟨u, G, hu, hG, e7, e8, h3, h4, h5, h6, h7, h8, h9, h10, h11, h12⟩ := chk k hk
      obtain ⟨hw1, hr2, -⟩ := id hSN
      obtain ⟨f, hf, hf2⟩ := hr2 k hk
      have f0 : f 0 = sH S k 0 := hf2 hk 0 (by decide)
      have f3 : f 3 = sH S k 3 := hf2 hk 3 (by decide)
      have f5 : f 5 = sH S k 5 := hf2 hk 5 (by decide)
      have f7 : f 7 = sH S k 7 := hf2 hk 7 (by decide)
      have f8 : f 8 = sH S k 8 := hf2 hk 8 (by decide)
      have er : rsm S (ra w) k + f 0 * wr ra le w 0 * (10 - f 5) / 10 = rsm S (ra w) (k + 1) := by
        rw [rsm_s, f0, f5]
        rfl
      have en : nsm S k + 3 * f 3 = nsm S (k + 1) := by
        rw [nsm_s, f3]
      refine v_iload X dL_law_542 rfl ?_
      refine v_iload3 X dL_law_544 rfl ?_
      refine v_icmp_ge (tgt := 1072) X dL_law_545 (by decide) (fun h5' => ?_) (fun h5' => ?_)
      · exact absurd h5' (nIge hk (by omega))
      refine v_iload X dL_law_548 rfl ?_
      refine v_aload X dL_law_550 rfl ?_
      refine v_iload X dL_law_552 rfl ?_
      refine v_aaldR X dL_law_554 (jA ho (by omega) (by omega) hw1) rfl hk (by omega) ?_
      refine v_ico (v := 0) X dL_law_555 (by decide) ?_
      refine v_iald X dL_law_556 (jA ho (by omega) (by omega) hf) rfl (by decide) (by decide) ?_
      refine v_aload X dL_law_557 rfl ?_
      refine v_ico (v := 0) X dL_law_559 (by decide) ?_
      refine v_iald X dL_law_560 (jS_wr ho (by omega) hw28) rfl (by decide) (by decide) ?_
      refine v_imul X dL_law_561 ?_
      refine v_bip (v := 10) X dL_law_562 (by decide) ?_
      refine v_aload X dL_law_564 rfl ?_
      refine v_iload X dL_law_566 rfl ?_
      refine v_aaldR X dL_law_568 (jA ho (by omega) (by omega) hw1) rfl hk (by omega) ?_
      refine v_ico (v := 5) X dL_law_569 (by decide) ?_
      refine v_iald X dL_law_570 (jA ho (by omega) (by omega) hf) rfl (by decide) (by decide) ?_
      refine v_isub X dL_law_571 ?_
      refine v_imul X dL_law_572 ?_
      refine v_bip (v := 10) X dL_law_573 (by decide) ?_
      refine v_idiv X dL_law_575 (by decide) ?_
      refine v_iadd X dL_law_576 ?_
      rw [er]
      refine v_istore17 X rfl (Nat.le_of_ble_eq_true rfl) dL_law_577 ?_
      refine v_iload X dL_law_579 rfl ?_
      refine v_ico (v := 3) X dL_law_581 (by decide) ?_
      refine v_aload X dL_law_582 rfl ?_
      refine v_iload X dL_law_584 rfl ?_
      refine v_aaldR X dL_law_586 (jA ho (by omega) (by omega) hw1) rfl hk (by omega) ?_
      refine v_ico (v := 3) X dL_law_587 (by decide) ?_
      refine v_iald X dL_law_588 (jA ho (by omega) (by omega) hf) rfl (by decide) (by decide) ?_
      refine v_imul X dL_law_589 ?_
      refine v_iadd X dL_law_590 ?_
      rw [en]
      refine v_istore18 X rfl (Nat.le_of_ble_eq_true rfl) dL_law_591 ?_
      refine v_aload1 X dL_law_593 rfl ?_
      refine v_iload X dL_law_594 rfl ?_
      refine v_ico (v := 2) X dL_law_596 (by decide) ?_
      refine cd_L_103 X dL_law_597 (c_house l (j := 2) (hB.R (by omega)) ho hk (by decide) (IN_0 (j := 2) (b := 9) (by decide) (by decide))) (jS_r hB (by omega)) rfl (Nat.le_of_ble_eq_true rfl) ⟨(Nat.le_of_ble_eq_true rfl), (Nat.le_of_ble_eq_true rfl), (by first | (show _ ≤ 600104; omega) | (show _ ≤ 7301314; omega)), (by first | (show _ ≤ 600104; omega) | (show _ ≤ 7301314; omega))⟩ ?_
      refine v_istore20 X rfl (Nat.le_of_ble_eq_true rfl) dL_law_600 ?_
      refine v_aload1 X dL_law_602 rfl ?_
      refine v_iload X dL_law_603 rfl ?_
      refine v_bip (v := 7) X dL_law_605 (by decide) ?_
      refine cd_L_103 X dL_law_607 (c_house l (j := 7) (hB.R (by omega)) ho hk (by decide) (IN_0 (j := 7) (b := 9) (by decide) (by decide))) (jS_r hB (by omega)) rfl (Nat.le_of_ble_eq_true rfl) ⟨(Nat.le_of_ble_eq_true rfl), (Nat.le_of_ble_eq_true rfl), (by first | (show _ ≤ 600104; omega) | (show _ ≤ 7301314; omega)), (by first | (show _ ≤ 600104; omega) | (show _ ≤ 7301314; omega))⟩ ?_
      refine v_aload X dL_law_610 rfl ?_
      refine v_iload X dL_law_612 rfl ?_
      refine v_aaldR X dL_law_614 (jA ho (by omega) (by omega) hw1) rfl hk (by omega) ?_
      refine v_bip (v := 7) X dL_law_615 (by decide) ?_
      refine v_iald X dL_law_617 (jA ho (by omega) (by omega) hf) rfl (by decide) (by decide) ?_
      refine v_isub X dL_law_618 ?_
      rw [f7, e7]
      refine v_istore21 X rfl (Nat.le_of_ble_eq_true rfl) dL_law_619 ?_
      refine v_aload1 X dL_law_621 rfl ?_
      refine v_iload X dL_law_622 rfl ?_
      refine v_bip (v := 8) X dL_law_624 (by decide) ?_
      refine cd_L_103 X dL_law_626 (c_house l (j := 8) (hB.R (by omega)) ho hk (by decide) (IN_0 (j := 8) (b := 9) (by decide) (by decide))) (jS_r hB (by omega)) rfl (Nat.le_of_ble_eq_true rfl) ⟨(Nat.le_of_ble_eq_true rfl), (Nat.le_of_ble_eq_true rfl), (by first | (show _ ≤ 600104; omega) | (show _ ≤ 7301314; omega)), (by first | (show _ ≤ 600104; omega) | (show _ ≤ 7301314; omega))⟩ ?_
      refine v_aload X dL_law_629 rfl ?_
      refine v_iload X dL_law_631 rfl ?_
      refine v_aaldR X dL_law_633 (jA ho (by omega) (by omega) hw1) rfl hk (by omega) ?_
      refine v_bip (v := 8) X dL_law_634 (by decide) ?_
      refine v_iald X dL_law_636 (jA ho (by omega) (by omega) hf) rfl (by decide) (by decide) ?_
      refine v_isub X dL_law_637 ?_
      rw [f8, e8]
      refine v_istore22 X rfl (Nat.le_of_ble_eq_true rfl) dL_law_638 ?_
      refine v_l8b (l := l) X ho hN8 hP8 hn hM hc hs hk hw28 hu hG hB hSN h3 h4 h5 h6 h7 h8 h9 h10 h11 ?_
      refine v_l8c (l := l) X ho hN8 hP8 hn hM hc hs hk hu hG hB hSN h12 ?_
      refine v_l8d (l := l) X ho hN8 hP8 hn hM hc hs hk hB hSN how ?_
      refine v_iinc19 (v := nI (k + 1)) X rfl (Nat.le_of_ble_eq_true rfl) dL_law_1066 (nI_inc k) ?_
      refine v_goto (tgt := 542) X dL_law_1069 (by decide) ?_
      exact ih (k + 1) (by omega)
  refine v_ico (v := 0) X dL_law_533 (by decide) ?_
  refine v_istore17 X rfl (Nat.le_of_ble_eq_true rfl) dL_law_534 ?_
  refine v_ico (v := 0) X dL_law_536 (by decide) ?_
  refine v_istore18 X rfl (Nat.le_of_ble_eq_true rfl) dL_law_537 ?_
  refine v_ico (v := 0) X dL_law_539 (by decide) ?_
  refine v_istore19 X rfl (Nat.le_of_ble_eq_true rfl) dL_law_540 ?_
  exact vV.le (by exact ⟨rfl, rfl, rfl, rfl, rfl, rfl, rfl, rfl, rfl, rfl, rfl, rfl, rfl, rfl, trivial⟩) (hO (sN S') 0 (by omega))
set_option maxRecDepth 100000 in
set_option maxHeartbeats 4000000 in
theorem v_l9 (X : vCx p s m A c cL_law RL 31 z0 D cy) (ho : ok S') (hN8 : sN S' ≤ 8) (hP8 : sP S' ≤ 8) (hn : n = 97 + sN S' + sP S') (hM : M = n + 1 + sN S' + 1 + 1 + sN S' + 1) (hc : cells ≤ 600104) (hs : slots ≤ 7301314) (hB : BJ cy ad S' ra le g0) (hSN : SN cy (sN S') (sP S') n ad S g0) (hr : sM S' 1 = sM S 1 + rsm S (ra w) (sN S')) (hne : sM S' 3 = sM S 3 + nsm S (sN S') - ms) (hp : ∀ p, p < sP S' → ∃ F : Int32, pOk (sQ S p) (sQ S' p) F) (hp2 : ∀ p, p < sP S' → 1 ≤ (sQ S p 2).toInt ∧ (sQ S p 2).toInt ≤ 50) (kk : vV p l e room_1 s m A below meth c 31 z0 D cells slots Q M ad (jW cy ad S' S' ra le g0) 29 [some (.ref (cy 9)), some (.ref (ad 0)), some (.ref (ad 54)), some (.int (nI (sN S'))), some (.int (nI (t + 1))), none, none, none, none, none, none, none, none, none, none, none, none, none, none, none, none, none, none, none, none, none, none, none, none, none, none] []) : vV p l e room_1 s m A below meth c 31 z0 D cells slots Q M ad (jW cy ad S' S' ra le g0) 1072 [some (.ref (cy 9)), some (.ref (ad 0)), some (.ref (ad 54)), some (.int (nI (sN S'))), some (.int (nI t)), none, some (.ref (ad n)), some (.ref (ad (n + 1 + sN S'))), some (.ref (ad (n + 1 + sN S' + 1))), none, none, none, none, none, some (.ref (ad (n + 1 + sN S' + 1 + 1 + sN S'))), some (.ref (ad (56 + w))), some (.int ms), some (.int (rsm S (ra w) (sN S'))), some (.int (nsm S (sN S'))), none, none, none, none, none, none, none, none, none, none, none, none] [] := by
  obtain ⟨-, -, ⟨f3, hf3, hf3'⟩, -, -, ⟨f, hf, hf2⟩⟩ := id hSN
  have f5 : f 5 = sM S 1 := hf2 5 (by decide)
  have f7 : f 7 = sM S 3 := hf2 7 (by decide)
  have t5 : totalS S' 5 = sM S' 1 := rfl
  have t7 : totalS S' 7 = sM S' 3 := rfl
  have hO : ∀ (q i : Nat), q + i = sP S' → vV p l e room_1 s m A below meth c 31 z0 D cells slots Q M ad (jW cy ad S' S' ra le g0) 1112 [some (.ref (cy 9)), some (.ref (ad 0)), some (.ref (ad 54)), some (.int (nI (sN S'))), some (.int (nI t)), none, some (.ref (ad n)), some (.ref (ad (n + 1 + sN S'))), some (.ref (ad (n + 1 + sN S' + 1))), none, none, none, none, none, some (.ref (ad (n + 1 + sN S' + 1 + 1 + sN S'))), some (.ref (ad (56 + w))), some (.int ms), some (.int (rsm S (ra w) (sN S'))), some (.int (nsm S (sN S'))), some (.int (nI i)), none, none, none, none, none, none, none, none, none, none, none] [] := by
    intro q
    induction q with
    | zero =>
      intro i hi
      have : i = sP S' := by omega
      subst this
      refine v_iload X dL_law_1112 rfl ?_
      refine v_aload X dL_law_1114 rfl ?_
      refine v_alenI X dL_law_1116 (jA ho (by omega) (by omega) hf3) ?_
      refine v_icmp_ge (tgt := 1175) X dL_law_1117 (by decide) (fun h5 => ?_) (fun h5 => ?_)
      · refine v_iinc4 (v := nI (t + 1)) X rfl (Nat.le_of_ble_eq_true rfl) dL_law_1175 (nI_inc t) ?_
        refine v_goto (tgt := 29) X dL_law_1178 (by decide) ?_
        exact vV.le (by exact ⟨rfl, rfl, rfl, rfl, rfl, trivial⟩) kk
      · exact absurd (Int32.le_refl _) h5
    | succ q ih =>
      intro i hqi
      have hi : i < sP S' := by omega
      obtain ⟨F, a1, a2, a3, a4, -, a6⟩ := hp i hi
      obtain ⟨l1, l2⟩ := hp2 i hi
      have e3 : f3 i = sQ S i 4 := hf3' i hi
      have q2 := a6 2 (by decide) (by decide)
      have q3 := a6 3 (by decide) (by decide)
      have eg : sQ S' i 4 - f3 i = jabs F := by rw [a4, e3, subI0]
      have jF := jabsI (x := F) (by omega)
      have j0 : 0 ≤ (jabs F).toInt ∧ (jabs F).toInt ≤ (sQ S i 2).toInt := by
        rw [jF]
        split <;> omega
      have h1169 : ∀ x : Int32, vV p l e room_1 s m A below meth c 31 z0 D cells slots Q M ad (jW cy ad S' S' ra le g0) 1169 [some (.ref (cy 9)), some (.ref (ad 0)), some (.ref (ad 54)), some (.int (nI (sN S'))), some (.int (nI t)), none, some (.ref (ad n)), some (.ref (ad (n + 1 + sN S'))), some (.ref (ad (n + 1 + sN S' + 1))), none, none, none, none, none, some (.ref (ad (n + 1 + sN S' + 1 + 1 + sN S'))), some (.ref (ad (56 + w))), some (.int ms), some (.int (rsm S (ra w) (sN S'))), some (.int (nsm S (sN S'))), some (.int (nI i)), some (.int x), none, none, none, none, none, none, none, none, none, none] [] := by
        intro x
        refine v_iinc19 (v := nI (i + 1)) X rfl (Nat.le_of_ble_eq_true rfl) dL_law_1169 (nI_inc i) ?_
        refine v_goto (tgt := 1112) X dL_law_1172 (by decide) ?_
        exact vV.le (by exact ⟨rfl, rfl, rfl, rfl, rfl, rfl, rfl, rfl, rfl, rfl, rfl, rfl, rfl, rfl, trivial⟩) (ih (i + 1) (by omega))
      refine v_iload X dL_law_1112 rfl ?_
      refine v_aload X dL_law_1114 rfl ?_
      refine v_alenI X dL_law_1116 (jA ho (by omega) (by omega) hf3) ?_
      refine v_icmp_ge (tgt := 1175) X dL_law_1117 (by decide) (fun h5 => ?_) (fun h5 => ?_)
      · exact absurd h5 (nIge hi (by omega))
      refine v_aload1 X dL_law_1120 rfl ?_
      refine v_iload X dL_law_1121 rfl ?_
      refine v_ico (v := 4) X dL_law_1123 (by decide) ?_
      refine cd_L_106 X dL_law_1124 (c_pipe l (j := 4) (hB.R (by omega)) ho hi (by decide) (IN_0 (j := 4) (b := 4) (by decide) (by decide))) (jS_r hB (by omega)) rfl (Nat.le_of_ble_eq_true rfl) ⟨(Nat.le_of_ble_eq_true rfl), (Nat.le_of_ble_eq_true rfl), (by first | (show _ ≤ 600104; omega) | (show _ ≤ 7301314; omega)), (by first | (show _ ≤ 600104; omega) | (show _ ≤ 7301314; omega))⟩ ?_
      refine v_aload X dL_law_1127 rfl ?_
      refine v_iload X dL_law_1129 rfl ?_
      refine v_iald X dL_law_1131 (jA ho (by omega) (by omega) hf3) rfl hi (by omega) ?_
      refine v_isub X dL_law_1132 ?_
      rw [eg]
      refine v_istore20 X rfl (Nat.le_of_ble_eq_true rfl) dL_law_1133 ?_
      refine v_iload X dL_law_1135 rfl ?_
      refine v_if_lt (tgt := 1167) X dL_law_1137 (by decide) (fun hc => absurd (Int32.lt_iff_toInt_lt.mp hc) (by rw [li_0]; omega)) (fun _ => ?_)
      refine v_iload X dL_law_1140 rfl ?_
      refine v_aload1 X dL_law_1142 rfl ?_
      refine v_iload X dL_law_1143 rfl ?_
      refine v_ico (v := 2) X dL_law_1145 (by decide) ?_
      refine cd_L_106 X dL_law_1146 (c_pipe l (j := 2) (hB.R (by omega)) ho hi (by decide) (IN_0 (j := 2) (b := 4) (by decide) (by decide))) (jS_r hB (by omega)) rfl (Nat.le_of_ble_eq_true rfl) ⟨(Nat.le_of_ble_eq_true rfl), (Nat.le_of_ble_eq_true rfl), (by first | (show _ ≤ 600104; omega) | (show _ ≤ 7301314; omega)), (by first | (show _ ≤ 600104; omega) | (show _ ≤ 7301314; omega))⟩ ?_
      refine v_icmp_gt (tgt := 1167) X dL_law_1149 (by decide) (fun hc => absurd (Int32.lt_iff_toInt_lt.mp hc) (by rw [q2]; omega)) (fun _ => ?_)
      refine v_aload1 X dL_law_1152 rfl ?_
      refine v_iload X dL_law_1153 rfl ?_
      refine v_ico (v := 3) X dL_law_1155 (by decide) ?_
      refine cd_L_106 X dL_law_1156 (c_pipe l (j := 3) (hB.R (by omega)) ho hi (by decide) (IN_0 (j := 3) (b := 4) (by decide) (by decide))) (jS_r hB (by omega)) rfl (Nat.le_of_ble_eq_true rfl) ⟨(Nat.le_of_ble_eq_true rfl), (Nat.le_of_ble_eq_true rfl), (by first | (show _ ≤ 600104; omega) | (show _ ≤ 7301314; omega)), (by first | (show _ ≤ 600104; omega) | (show _ ≤ 7301314; omega))⟩ ?_
      refine v_if_ne (tgt := 1169) X dL_law_1159 (by decide) (fun c1 => ?_) (fun c1 => ?_)
      · exact h1169 _
      refine v_iload X dL_law_1162 rfl ?_
      refine v_if_eq (tgt := 1169) X dL_law_1164 (by decide) (fun _ => h1169 _) (fun hc => absurd ?_ hc)
      have z : F = 0 := a3 (by rw [← q3]; exact c1)
      rw [z]
      decide
  refine v_aload1 X dL_law_1072 rfl ?_
  refine v_ico (v := 5) X dL_law_1073 (by decide) ?_
  refine cd_L_118 X dL_law_1074 (c_count l (j := 5) (hB.R (by omega)) ho (by decide) (IN_0 (j := 5) (b := 10) (by decide) (by decide))) (jS_r hB (by omega)) rfl (Nat.le_of_ble_eq_true rfl) ⟨(Nat.le_of_ble_eq_true rfl), (Nat.le_of_ble_eq_true rfl), (by first | (show _ ≤ 600104; omega) | (show _ ≤ 7301314; omega)), (by first | (show _ ≤ 600104; omega) | (show _ ≤ 7301314; omega))⟩ ?_
  refine v_aload X dL_law_1077 rfl ?_
  refine v_ico (v := 5) X dL_law_1079 (by decide) ?_
  refine v_iald X dL_law_1080 (jA ho (by omega) (by omega) hf) rfl (by decide) (by decide) ?_
  refine v_iload X dL_law_1081 rfl ?_
  refine v_iadd X dL_law_1083 ?_
  refine v_icmp_ne (tgt := 1107) X dL_law_1084 (by decide) (fun hc => absurd (by rw [t5, f5, hr]) hc) (fun _ => ?_)
  refine v_aload1 X dL_law_1087 rfl ?_
  refine v_bip (v := 7) X dL_law_1088 (by decide) ?_
  refine cd_L_118 X dL_law_1090 (c_count l (j := 7) (hB.R (by omega)) ho (by decide) (IN_0 (j := 7) (b := 10) (by decide) (by decide))) (jS_r hB (by omega)) rfl (Nat.le_of_ble_eq_true rfl) ⟨(Nat.le_of_ble_eq_true rfl), (Nat.le_of_ble_eq_true rfl), (by first | (show _ ≤ 600104; omega) | (show _ ≤ 7301314; omega)), (by first | (show _ ≤ 600104; omega) | (show _ ≤ 7301314; omega))⟩ ?_
  refine v_aload X dL_law_1093 rfl ?_
  refine v_bip (v := 7) X dL_law_1095 (by decide) ?_
  refine v_iald X dL_law_1097 (jA ho (by omega) (by omega) hf) rfl (by decide) (by decide) ?_
  refine v_iload X dL_law_1098 rfl ?_
  refine v_iadd X dL_law_1100 ?_
  refine v_iload X dL_law_1101 rfl ?_
  refine v_isub X dL_law_1103 ?_
  refine v_icmp_eq (tgt := 1109) X dL_law_1104 (by decide) (fun _ => ?_) (fun hc => absurd (by rw [t7, f7, hne]) hc)
  refine v_ico (v := 0) X dL_law_1109 (by decide) ?_
  refine v_istore19 X rfl (Nat.le_of_ble_eq_true rfl) dL_law_1110 ?_
  exact hO (sP S') 0 (by omega)
end LG
