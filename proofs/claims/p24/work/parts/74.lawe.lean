/-! the law: each house behind the day -/
section LF
variable {l : Launch} {p : Program} {e : Env} {s : State} {m : MethodId} {A : Array Value} {below : List Frame} {meth : Method} {c : Code} {Q : State → Prop} {z0 n cells slots t w M k o : Nat} {D : va_G} {cy : Nat → ClassId} {ad : Nat → Nat} {S S' : tS} {ra le : Nat → Int32} {g0 : Nat → va_E} {ms rA nA its : Int32}
set_option maxRecDepth 100000 in
set_option maxHeartbeats 4000000 in
theorem v_l8e (X : vCx p s m A c cL_law RL 31 z0 D cy) (ho : ok S') (hN8 : sN S' ≤ 8) (hP8 : sP S' ≤ 8) (hn : n = 97 + sN S' + sP S') (hM : M = n + 1 + sN S' + 1 + 1 + sN S' + 1) (hc : cells ≤ 600104) (hs : slots ≤ 7301314) (hk : k < sN S') (kk : vV p l e room_1 s m A below meth c 31 z0 D cells slots Q M ad (jW cy ad S' S' ra le g0) 1043 [some (.ref (cy 9)), some (.ref (ad 0)), some (.ref (ad 54)), some (.int (nI (sN S'))), some (.int (nI t)), none, some (.ref (ad n)), some (.ref (ad (n + 1 + sN S'))), some (.ref (ad (n + 1 + sN S' + 1))), none, none, none, none, none, some (.ref (ad (n + 1 + sN S' + 1 + 1 + sN S'))), some (.ref (ad (56 + w))), some (.int ms), some (.int rA), some (.int nA), some (.int (nI k)), none, none, none, none, some (.int (nI o)), some (.int its), some (.int (lsm (nI k) (nI o) S' (sP S'))), none, none, none, none] []) : vV p l e room_1 s m A below meth c 31 z0 D cells slots Q M ad (jW cy ad S' S' ra le g0) 953 [some (.ref (cy 9)), some (.ref (ad 0)), some (.ref (ad 54)), some (.int (nI (sN S'))), some (.int (nI t)), none, some (.ref (ad n)), some (.ref (ad (n + 1 + sN S'))), some (.ref (ad (n + 1 + sN S' + 1))), none, none, none, none, none, some (.ref (ad (n + 1 + sN S' + 1 + 1 + sN S'))), some (.ref (ad (56 + w))), some (.int ms), some (.int rA), some (.int nA), some (.int (nI k)), none, none, none, none, some (.int (nI o)), some (.int its), none, none, none, none, none] [] := by
  have hO : ∀ (q i : Nat), q + i = sP S' → vV p l e room_1 s m A below meth c 31 z0 D cells slots Q M ad (jW cy ad S' S' ra le g0) 970 [some (.ref (cy 9)), some (.ref (ad 0)), some (.ref (ad 54)), some (.int (nI (sN S'))), some (.int (nI t)), none, some (.ref (ad n)), some (.ref (ad (n + 1 + sN S'))), some (.ref (ad (n + 1 + sN S' + 1))), none, none, none, none, none, some (.ref (ad (n + 1 + sN S' + 1 + 1 + sN S'))), some (.ref (ad (56 + w))), some (.int ms), some (.int rA), some (.int nA), some (.int (nI k)), none, none, none, none, some (.int (nI o)), some (.int its), some (.int (lsm (nI k) (nI o) S' i)), some (.ref (ad 96)), some (.int (nI (sP S'))), some (.int (nI i)), none] [] := by
    intro q
    induction q with
    | zero =>
      intro i hi
      have : i = sP S' := by omega
      subst this
      refine v_iload X dL_law_970 rfl ?_
      refine v_iload X dL_law_972 rfl ?_
      refine v_icmp_ge (tgt := 1043) X dL_law_974 (by decide) (fun h5 => ?_) (fun h5 => ?_)
      · exact vV.le (by exact ⟨rfl, rfl, rfl, rfl, rfl, rfl, rfl, rfl, rfl, rfl, rfl, rfl, rfl, rfl, rfl, rfl, rfl, trivial⟩) kk
      · exact absurd (Int32.le_refl _) h5
    | succ q ih =>
      intro i hqi
      have hi : i < sP S' := by omega
      have hy : btw (sQ S' i) (nI k) (nI o) → vV p l e room_1 s m A below meth c 31 z0 D cells slots Q M ad (jW cy ad S' S' ra le g0) 1028 [some (.ref (cy 9)), some (.ref (ad 0)), some (.ref (ad 54)), some (.int (nI (sN S'))), some (.int (nI t)), none, some (.ref (ad n)), some (.ref (ad (n + 1 + sN S'))), some (.ref (ad (n + 1 + sN S' + 1))), none, none, none, none, none, some (.ref (ad (n + 1 + sN S' + 1 + 1 + sN S'))), some (.ref (ad (56 + w))), some (.int ms), some (.int rA), some (.int nA), some (.int (nI k)), none, none, none, none, some (.int (nI o)), some (.int its), some (.int (lsm (nI k) (nI o) S' i)), some (.ref (ad 96)), some (.int (nI (sP S'))), some (.int (nI i)), some (.ref (ad (97 + sN S' + i)))] [] := by
        intro hb
        refine v_iload X dL_law_1028 rfl ?_
        refine v_aload X dL_law_1030 rfl ?_
        refine v_ico (v := 2) X dL_law_1032 (by decide) ?_
        refine v_iald X dL_law_1033 (jS_pp ho (by omega) hi) rfl (by decide) (by decide) ?_
        refine v_iadd X dL_law_1034 ?_
        refine vV.top (w := .int (lsm (nI k) (nI o) S' (i + 1))) (congrArg Value.int (lsm_y hb).symm) ?_
        refine v_istore26 X rfl (Nat.le_of_ble_eq_true rfl) dL_law_1035 ?_
        refine v_iinc29 (v := nI (i + 1)) X rfl (Nat.le_of_ble_eq_true rfl) dL_law_1037 (nI_inc i) ?_
        refine v_goto (tgt := 970) X dL_law_1040 (by decide) ?_
        exact vV.le (by exact ⟨rfl, rfl, rfl, rfl, rfl, rfl, rfl, rfl, rfl, rfl, rfl, rfl, rfl, rfl, rfl, rfl, rfl, rfl, rfl, rfl, trivial⟩) (ih (i + 1) (by omega))
      have hnn : ¬ btw (sQ S' i) (nI k) (nI o) → vV p l e room_1 s m A below meth c 31 z0 D cells slots Q M ad (jW cy ad S' S' ra le g0) 1037 [some (.ref (cy 9)), some (.ref (ad 0)), some (.ref (ad 54)), some (.int (nI (sN S'))), some (.int (nI t)), none, some (.ref (ad n)), some (.ref (ad (n + 1 + sN S'))), some (.ref (ad (n + 1 + sN S' + 1))), none, none, none, none, none, some (.ref (ad (n + 1 + sN S' + 1 + 1 + sN S'))), some (.ref (ad (56 + w))), some (.int ms), some (.int rA), some (.int nA), some (.int (nI k)), none, none, none, none, some (.int (nI o)), some (.int its), some (.int (lsm (nI k) (nI o) S' i)), some (.ref (ad 96)), some (.int (nI (sP S'))), some (.int (nI i)), some (.ref (ad (97 + sN S' + i)))] [] := by
        intro hb
        refine v_iinc29 (v := nI (i + 1)) X rfl (Nat.le_of_ble_eq_true rfl) dL_law_1037 (nI_inc i) ?_
        refine v_goto (tgt := 970) X dL_law_1040 (by decide) ?_
        rw [← lsm_n hb]
        exact vV.le (by exact ⟨rfl, rfl, rfl, rfl, rfl, rfl, rfl, rfl, rfl, rfl, rfl, rfl, rfl, rfl, rfl, rfl, rfl, rfl, rfl, rfl, trivial⟩) (ih (i + 1) (by omega))
      refine v_iload X dL_law_970 rfl ?_
      refine v_iload X dL_law_972 rfl ?_
      refine v_icmp_ge (tgt := 1043) X dL_law_974 (by decide) (fun h5 => ?_) (fun h5 => ?_)
      · exact absurd h5 (nIge hi (by omega))
      refine v_aload X dL_law_977 rfl ?_
      refine v_iload X dL_law_979 rfl ?_
      refine v_aaldR X dL_law_981 (jS_p ho (by omega)) rfl hi (by omega) ?_
      refine v_astore30 X rfl (Nat.le_of_ble_eq_true rfl) dL_law_982 ?_
      refine v_aload X dL_law_984 rfl ?_
      refine v_ico (v := 3) X dL_law_986 (by decide) ?_
      refine v_iald X dL_law_987 (jS_pp ho (by omega) hi) rfl (by decide) (by decide) ?_
      refine v_ico (v := 1) X dL_law_988 (by decide) ?_
      refine v_icmp_ne (tgt := 1037) X dL_law_989 (by decide) (fun c3 => ?_) (fun c3 => ?_)
      · exact hnn (fun q => c3 q.1)
      have c3' : sQ S' i 3 = 1 := c3
      refine v_aload X dL_law_992 rfl ?_
      refine v_ico (v := 0) X dL_law_994 (by decide) ?_
      refine v_iald X dL_law_995 (jS_pp ho (by omega) hi) rfl (by decide) (by decide) ?_
      refine v_iload X dL_law_996 rfl ?_
      have h1010 : ¬ (sQ S' i 0 = nI k ∧ sQ S' i 1 = nI o) → vV p l e room_1 s m A below meth c 31 z0 D cells slots Q M ad (jW cy ad S' S' ra le g0) 1010 [some (.ref (cy 9)), some (.ref (ad 0)), some (.ref (ad 54)), some (.int (nI (sN S'))), some (.int (nI t)), none, some (.ref (ad n)), some (.ref (ad (n + 1 + sN S'))), some (.ref (ad (n + 1 + sN S' + 1))), none, none, none, none, none, some (.ref (ad (n + 1 + sN S' + 1 + 1 + sN S'))), some (.ref (ad (56 + w))), some (.int ms), some (.int rA), some (.int nA), some (.int (nI k)), none, none, none, none, some (.int (nI o)), some (.int its), some (.int (lsm (nI k) (nI o) S' i)), some (.ref (ad 96)), some (.int (nI (sP S'))), some (.int (nI i)), some (.ref (ad (97 + sN S' + i)))] [] := by
        intro hno
        refine v_aload X dL_law_1010 rfl ?_
        refine v_ico (v := 0) X dL_law_1012 (by decide) ?_
        refine v_iald X dL_law_1013 (jS_pp ho (by omega) hi) rfl (by decide) (by decide) ?_
        refine v_iload X dL_law_1014 rfl ?_
        refine v_icmp_ne (tgt := 1037) X dL_law_1016 (by decide) (fun c4 => ?_) (fun c4 => ?_)
        · exact hnn (fun q => by
            rcases q.2 with q2 | q2
            · exact hno q2
            · exact c4 q2.1)
        refine v_aload X dL_law_1019 rfl ?_
        refine v_ico (v := 1) X dL_law_1021 (by decide) ?_
        refine v_iald X dL_law_1022 (jS_pp ho (by omega) hi) rfl (by decide) (by decide) ?_
        refine v_iload X dL_law_1023 rfl ?_
        refine v_icmp_ne (tgt := 1037) X dL_law_1025 (by decide) (fun c5 => ?_) (fun c5 => ?_)
        · exact hnn (fun q => by
            rcases q.2 with q2 | q2
            · exact hno q2
            · exact c5 q2.2)
        exact hy ⟨c3', Or.inr ⟨c4, c5⟩⟩
      refine v_icmp_ne (tgt := 1010) X dL_law_998 (by decide) (fun c0 => ?_) (fun c0 => ?_)
      · exact h1010 (fun q => c0 q.1)
      refine v_aload X dL_law_1001 rfl ?_
      refine v_ico (v := 1) X dL_law_1003 (by decide) ?_
      refine v_iald X dL_law_1004 (jS_pp ho (by omega) hi) rfl (by decide) (by decide) ?_
      refine v_iload X dL_law_1005 rfl ?_
      refine v_icmp_eq (tgt := 1028) X dL_law_1007 (by decide) (fun c1 => ?_) (fun c1 => ?_)
      · exact hy ⟨c3', Or.inl ⟨c0, c1⟩⟩
      · exact h1010 (fun q => c1 q.2)
  refine v_ico (v := 0) X dL_law_953 (by decide) ?_
  refine v_istore26 X rfl (Nat.le_of_ble_eq_true rfl) dL_law_954 ?_
  refine v_aload2 X dL_law_956 rfl ?_
  refine gf_L_81 X dL_law_957 (jS_s ho (by omega)) ?_
  refine v_astore27 X rfl (Nat.le_of_ble_eq_true rfl) dL_law_960 ?_
  refine v_aload X dL_law_962 rfl ?_
  refine v_alenA X dL_law_964 (jS_p ho (by omega)) ?_
  refine v_istore28 X rfl (Nat.le_of_ble_eq_true rfl) dL_law_965 ?_
  refine v_ico (v := 0) X dL_law_967 (by decide) ?_
  refine v_istore29 X rfl (Nat.le_of_ble_eq_true rfl) dL_law_968 ?_
  exact vV.le (by exact ⟨rfl, rfl, rfl, rfl, rfl, rfl, rfl, rfl, rfl, rfl, rfl, rfl, rfl, rfl, rfl, rfl, rfl, rfl, rfl, rfl, trivial⟩) (hO (sP S') 0 (by omega))
set_option maxRecDepth 100000 in
set_option maxHeartbeats 4000000 in
theorem v_l8d (X : vCx p s m A c cL_law RL 31 z0 D cy) (ho : ok S') (hN8 : sN S' ≤ 8) (hP8 : sP S' ≤ 8) (hn : n = 97 + sN S' + sP S') (hM : M = n + 1 + sN S' + 1 + 1 + sN S' + 1) (hc : cells ≤ 600104) (hs : slots ≤ 7301314) (hk : k < sN S') (hB : BJ cy ad S' ra le g0) (hSN : SN cy (sN S') (sP S') n ad S g0) (how : ∀ x y : Int32, ¬ lsm x y S' (sP S') < debtS x y S' - debtS x y S ∧ -(debtS x y S' - debtS x y S) ≤ lsm x y S' (sP S')) (kk : vV p l e room_1 s m A below meth c 31 z0 D cells slots Q M ad (jW cy ad S' S' ra le g0) 1066 [some (.ref (cy 9)), some (.ref (ad 0)), some (.ref (ad 54)), some (.int (nI (sN S'))), some (.int (nI t)), none, some (.ref (ad n)), some (.ref (ad (n + 1 + sN S'))), some (.ref (ad (n + 1 + sN S' + 1))), none, none, none, none, none, some (.ref (ad (n + 1 + sN S' + 1 + 1 + sN S'))), some (.ref (ad (56 + w))), some (.int ms), some (.int rA), some (.int nA), some (.int (nI k)), none, none, none, none, none, none, none, none, none, none, none] []) : vV p l e room_1 s m A below meth c 31 z0 D cells slots Q M ad (jW cy ad S' S' ra le g0) 903 [some (.ref (cy 9)), some (.ref (ad 0)), some (.ref (ad 54)), some (.int (nI (sN S'))), some (.int (nI t)), none, some (.ref (ad n)), some (.ref (ad (n + 1 + sN S'))), some (.ref (ad (n + 1 + sN S' + 1))), none, none, none, none, none, some (.ref (ad (n + 1 + sN S' + 1 + 1 + sN S'))), some (.ref (ad (56 + w))), some (.int ms), some (.int rA), some (.int nA), some (.int (nI k)), none, none, none, none, none, none, none, none, none, none, none] [] := by
  obtain ⟨-, -, -, hw4, hr5, -⟩ := id hSN
  obtain ⟨f, hf, hf2⟩ := hr5 k hk
  have hO : ∀ (q o : Nat), q + o = sN S' → vV p l e room_1 s m A below meth c 31 z0 D cells slots Q M ad (jW cy ad S' S' ra le g0) 906 [some (.ref (cy 9)), some (.ref (ad 0)), some (.ref (ad 54)), some (.int (nI (sN S'))), some (.int (nI t)), none, some (.ref (ad n)), some (.ref (ad (n + 1 + sN S'))), some (.ref (ad (n + 1 + sN S' + 1))), none, none, none, none, none, some (.ref (ad (n + 1 + sN S' + 1 + 1 + sN S'))), some (.ref (ad (56 + w))), some (.int ms), some (.int rA), some (.int nA), some (.int (nI k)), none, none, none, none, some (.int (nI o)), none, none, none, none, none, none] [] := by
    intro q
    induction q with
    | zero =>
      intro o hoo
      have : o = sN S' := by omega
      subst this
      refine v_iload X dL_law_906 rfl ?_
      refine v_iload3 X dL_law_908 rfl ?_
      refine v_icmp_ge (tgt := 1066) X dL_law_909 (by decide) (fun h5 => ?_) (fun h5 => ?_)
      · exact vV.le (by exact ⟨rfl, rfl, rfl, rfl, rfl, rfl, rfl, rfl, rfl, rfl, rfl, rfl, rfl, rfl, trivial⟩) kk
      · exact absurd (Int32.le_refl _) h5
    | succ q ih =>
      intro o hqo
      have hoo : o < sN S' := by omega
      have ef : f o = debtS (nI k) (nI o) S := hf2 hk o hoo
      obtain ⟨w1, w2⟩ := how (nI k) (nI o)
      refine v_iload X dL_law_906 rfl ?_
      refine v_iload3 X dL_law_908 rfl ?_
      refine v_icmp_ge (tgt := 1066) X dL_law_909 (by decide) (fun h5 => ?_) (fun h5 => ?_)
      · exact absurd h5 (nIge hoo (by omega))
      refine v_aload1 X dL_law_912 rfl ?_
      refine v_iload X dL_law_913 rfl ?_
      refine v_iload X dL_law_915 rfl ?_
      refine cd_L_109 X dL_law_917 (c_owes l (hB.R (by omega)) ho (hasB_1 hk (by omega)) (hasB_1 hoo (by omega))) (jS_r hB (by omega)) rfl (Nat.le_of_ble_eq_true rfl) ⟨(Nat.le_of_ble_eq_true rfl), (Nat.le_of_ble_eq_true rfl), (by first | (show _ ≤ 600104; omega) | (show _ ≤ 7301314; omega)), (by first | (show _ ≤ 600104; omega) | (show _ ≤ 7301314; omega))⟩ ?_
      refine v_aload X dL_law_920 rfl ?_
      refine v_iload X dL_law_922 rfl ?_
      refine v_aaldR X dL_law_924 (jA ho (by omega) (by omega) hw4) rfl hk (by omega) ?_
      refine v_iload X dL_law_925 rfl ?_
      refine v_iald X dL_law_927 (jA ho (by omega) (by omega) hf) rfl hoo (by omega) ?_
      refine v_isub X dL_law_928 ?_
      rw [ef]
      refine v_istore25 X rfl (Nat.le_of_ble_eq_true rfl) dL_law_929 ?_
      refine v_aload1 X dL_law_931 rfl ?_
      refine v_iload X dL_law_932 rfl ?_
      refine v_iload X dL_law_934 rfl ?_
      refine cd_L_109 X dL_law_936 (c_owes l (hB.R (by omega)) ho (hasB_1 hk (by omega)) (hasB_1 hoo (by omega))) (jS_r hB (by omega)) rfl (Nat.le_of_ble_eq_true rfl) ⟨(Nat.le_of_ble_eq_true rfl), (Nat.le_of_ble_eq_true rfl), (by first | (show _ ≤ 600104; omega) | (show _ ≤ 7301314; omega)), (by first | (show _ ≤ 600104; omega) | (show _ ≤ 7301314; omega))⟩ ?_
      refine v_aload1 X dL_law_939 rfl ?_
      refine v_iload X dL_law_940 rfl ?_
      refine v_iload X dL_law_942 rfl ?_
      refine cd_L_109 X dL_law_944 (c_owes l (hB.R (by omega)) ho (hasB_1 hoo (by omega)) (hasB_1 hk (by omega))) (jS_r hB (by omega)) rfl (Nat.le_of_ble_eq_true rfl) ⟨(Nat.le_of_ble_eq_true rfl), (Nat.le_of_ble_eq_true rfl), (by first | (show _ ≤ 600104; omega) | (show _ ≤ 7301314; omega)), (by first | (show _ ≤ 600104; omega) | (show _ ≤ 7301314; omega))⟩ ?_
      refine v_ineg X dL_law_947 ?_
      refine v_icmp_eq (tgt := 953) X dL_law_948 (by decide) (fun _ => ?_) (fun hc => absurd (debt_anti ho (nI k) (nI o)) hc)
      refine v_l8e (l := l) X ho hN8 hP8 hn hM hc hs hk ?_
      refine v_iload X dL_law_1043 rfl ?_
      refine v_iload X dL_law_1045 rfl ?_
      refine v_icmp_gt (tgt := 1058) X dL_law_1047 (by decide) (fun hc => absurd hc w1) (fun _ => ?_)
      refine v_iload X dL_law_1050 rfl ?_
      refine v_ineg X dL_law_1052 ?_
      refine v_iload X dL_law_1053 rfl ?_
      refine v_icmp_le (tgt := 1060) X dL_law_1055 (by decide) (fun _ => ?_) (fun hc => absurd w2 hc)
      refine v_iinc24 (v := nI (o + 1)) X rfl (Nat.le_of_ble_eq_true rfl) dL_law_1060 (nI_inc o) ?_
      refine v_goto (tgt := 906) X dL_law_1063 (by decide) ?_
      exact vV.le (by exact ⟨rfl, rfl, rfl, rfl, rfl, rfl, rfl, rfl, rfl, rfl, rfl, rfl, rfl, rfl, rfl, trivial⟩) (ih (o + 1) (by omega))
  refine v_ico (v := 0) X dL_law_903 (by decide) ?_
  refine v_istore24 X rfl (Nat.le_of_ble_eq_true rfl) dL_law_904 ?_
  exact hO (sN S') 0 (by omega)
set_option maxRecDepth 100000 in
set_option maxHeartbeats 4000000 in
theorem v_l8c (X : vCx p s m A c cL_law RL 31 z0 D cy) (ho : ok S') (hN8 : sN S' ≤ 8) (hP8 : sP S' ≤ 8) (hn : n = 97 + sN S' + sP S') (hM : M = n + 1 + sN S' + 1 + 1 + sN S' + 1) (hc : cells ≤ 600104) (hs : slots ≤ 7301314) (hk : k < sN S') {u G : Nat} (hu : u ≤ 27) (hG : G ≤ 20) (hB : BJ cy ad S' ra le g0) (hSN : SN cy (sN S') (sP S') n ad S g0) (hno : (∀ p, p < sP S' → sQ S' p 0 ≠ nI k ∧ sQ S' p 1 ≠ nI k) → (0 < u → sH S' k 2 = 0) ∧ (0 < G → sH S k 1 ≤ 2 * sH S' k 2)) (kk : vV p l e room_1 s m A below meth c 31 z0 D cells slots Q M ad (jW cy ad S' S' ra le g0) 903 [some (.ref (cy 9)), some (.ref (ad 0)), some (.ref (ad 54)), some (.int (nI (sN S'))), some (.int (nI t)), none, some (.ref (ad n)), some (.ref (ad (n + 1 + sN S'))), some (.ref (ad (n + 1 + sN S' + 1))), none, none, none, none, none, some (.ref (ad (n + 1 + sN S' + 1 + 1 + sN S'))), some (.ref (ad (56 + w))), some (.int ms), some (.int rA), some (.int nA), some (.int (nI k)), none, none, none, none, none, none, none, none, none, none, none] []) : vV p l e room_1 s m A below meth c 31 z0 D cells slots Q M ad (jW cy ad S' S' ra le g0) 800 [some (.ref (cy 9)), some (.ref (ad 0)), some (.ref (ad 54)), some (.int (nI (sN S'))), some (.int (nI t)), none, some (.ref (ad n)), some (.ref (ad (n + 1 + sN S'))), some (.ref (ad (n + 1 + sN S' + 1))), none, none, none, none, none, some (.ref (ad (n + 1 + sN S' + 1 + 1 + sN S'))), some (.ref (ad (56 + w))), some (.int ms), some (.int rA), some (.int nA), some (.int (nI k)), some (.int (sH S' k 2)), some (.int (nI u)), some (.int (nI G)), none, none, none, none, none, none, none, none] [] := by
  obtain ⟨hw1, hr2, -⟩ := id hSN
  obtain ⟨f, hf, hf2⟩ := hr2 k hk
  have ef : f 1 = sH S k 1 := hf2 hk 1 (by decide)
  have hkk : vV p l e room_1 s m A below meth c 31 z0 D cells slots Q M ad (jW cy ad S' S' ra le g0) 903 [some (.ref (cy 9)), some (.ref (ad 0)), some (.ref (ad 54)), some (.int (nI (sN S'))), some (.int (nI t)), none, some (.ref (ad n)), some (.ref (ad (n + 1 + sN S'))), some (.ref (ad (n + 1 + sN S' + 1))), none, none, none, none, none, some (.ref (ad (n + 1 + sN S' + 1 + 1 + sN S'))), some (.ref (ad (56 + w))), some (.int ms), some (.int rA), some (.int nA), some (.int (nI k)), some (.int (sH S' k 2)), some (.int (nI u)), some (.int (nI G)), none, none, none, none, none, none, none, none] [] := vV.le (by exact ⟨rfl, rfl, rfl, rfl, rfl, rfl, rfl, rfl, rfl, rfl, rfl, rfl, rfl, rfl, trivial⟩) kk
  have hO : ∀ (q i : Nat), q + i = sP S' → ∀ b : Int32, isB b → (b = 0 → ∀ p, p < i → sQ S' p 0 ≠ nI k ∧ sQ S' p 1 ≠ nI k) → vV p l e room_1 s m A below meth c 31 z0 D cells slots Q M ad (jW cy ad S' S' ra le g0) 817 [some (.ref (cy 9)), some (.ref (ad 0)), some (.ref (ad 54)), some (.int (nI (sN S'))), some (.int (nI t)), none, some (.ref (ad n)), some (.ref (ad (n + 1 + sN S'))), some (.ref (ad (n + 1 + sN S' + 1))), none, none, none, none, none, some (.ref (ad (n + 1 + sN S' + 1 + 1 + sN S'))), some (.ref (ad (56 + w))), some (.int ms), some (.int rA), some (.int nA), some (.int (nI k)), some (.int (sH S' k 2)), some (.int (nI u)), some (.int (nI G)), some (.int b), some (.ref (ad 96)), some (.int (nI (sP S'))), some (.int (nI i)), none, none, none, none] [] := by
    intro q
    induction q with
    | zero =>
      intro i hi b hb hb0
      have : i = sP S' := by omega
      subst this
      have h882 : (0 < G → sH S k 1 ≤ 2 * sH S' k 2) → vV p l e room_1 s m A below meth c 31 z0 D cells slots Q M ad (jW cy ad S' S' ra le g0) 882 [some (.ref (cy 9)), some (.ref (ad 0)), some (.ref (ad 54)), some (.int (nI (sN S'))), some (.int (nI t)), none, some (.ref (ad n)), some (.ref (ad (n + 1 + sN S'))), some (.ref (ad (n + 1 + sN S' + 1))), none, none, none, none, none, some (.ref (ad (n + 1 + sN S' + 1 + 1 + sN S'))), some (.ref (ad (56 + w))), some (.int ms), some (.int rA), some (.int nA), some (.int (nI k)), some (.int (sH S' k 2)), some (.int (nI u)), some (.int (nI G)), none, none, none, none, none, none, none, none] [] := by
        intro h2
        refine v_iload X dL_law_882 rfl ?_
        refine v_if_le (tgt := 903) X dL_law_884 (by decide) (fun c1 => ?_) (fun c1 => ?_)
        · exact hkk
        have hG0 : 0 < G := Nat.pos_of_ne_zero (fun q => c1 (by rw [q]; decide))
        refine v_ico (v := 2) X dL_law_887 (by decide) ?_
        refine v_iload X dL_law_888 rfl ?_
        refine v_imul X dL_law_890 ?_
        refine v_aload X dL_law_891 rfl ?_
        refine v_iload X dL_law_893 rfl ?_
        refine v_aaldR X dL_law_895 (jA ho (by omega) (by omega) hw1) rfl hk (by omega) ?_
        refine v_ico (v := 1) X dL_law_896 (by decide) ?_
        refine v_iald X dL_law_897 (jA ho (by omega) (by omega) hf) rfl (by decide) (by decide) ?_
        refine v_icmp_ge (tgt := 903) X dL_law_898 (by decide) (fun _ => hkk) (fun hc => absurd ?_ hc)
        rw [ef]
        exact h2 hG0
      refine v_iload X dL_law_817 rfl ?_
      refine v_iload X dL_law_819 rfl ?_
      refine v_icmp_ge (tgt := 867) X dL_law_821 (by decide) (fun h5 => ?_) (fun h5 => ?_)
      · refine v_iload X dL_law_867 rfl ?_
        refine v_if_ne (tgt := 903) X dL_law_869 (by decide) (fun c0 => ?_) (fun c0 => ?_)
        · exact vV.le (by exact ⟨rfl, rfl, rfl, rfl, rfl, rfl, rfl, rfl, rfl, rfl, rfl, rfl, rfl, rfl, rfl, rfl, rfl, trivial⟩) hkk
        obtain ⟨n1, n2⟩ := hno (hb0 c0)
        refine v_iload X dL_law_872 rfl ?_
        refine v_if_le (tgt := 882) X dL_law_874 (by decide) (fun c1 => ?_) (fun c1 => ?_)
        · exact vV.le (by exact ⟨rfl, rfl, rfl, rfl, rfl, rfl, rfl, rfl, rfl, rfl, rfl, rfl, rfl, rfl, rfl, rfl, rfl, trivial⟩) (h882 n2)
        have hu0 : 0 < u := Nat.pos_of_ne_zero (fun q => c1 (by rw [q]; decide))
        refine v_iload X dL_law_877 rfl ?_
        refine v_if_ne (tgt := 901) X dL_law_879 (by decide) (fun hc => absurd (n1 hu0) hc) (fun _ => ?_)
        exact vV.le (by exact ⟨rfl, rfl, rfl, rfl, rfl, rfl, rfl, rfl, rfl, rfl, rfl, rfl, rfl, rfl, rfl, rfl, rfl, trivial⟩) (h882 n2)
      · exact absurd (Int32.le_refl _) h5
    | succ q ih =>
      intro i hqi b hb hb0
      have hi : i < sP S' := by omega
      have h859 : ∀ b' : Int32, isB b' → (b' = 0 → ∀ p, p < i + 1 → sQ S' p 0 ≠ nI k ∧ sQ S' p 1 ≠ nI k) → vV p l e room_1 s m A below meth c 31 z0 D cells slots Q M ad (jW cy ad S' S' ra le g0) 859 [some (.ref (cy 9)), some (.ref (ad 0)), some (.ref (ad 54)), some (.int (nI (sN S'))), some (.int (nI t)), none, some (.ref (ad n)), some (.ref (ad (n + 1 + sN S'))), some (.ref (ad (n + 1 + sN S' + 1))), none, none, none, none, none, some (.ref (ad (n + 1 + sN S' + 1 + 1 + sN S'))), some (.ref (ad (56 + w))), some (.int ms), some (.int rA), some (.int nA), some (.int (nI k)), some (.int (sH S' k 2)), some (.int (nI u)), some (.int (nI G)), some (.int b), some (.ref (ad 96)), some (.int (nI (sP S'))), some (.int (nI i)), some (.ref (ad (97 + sN S' + i))), none, none, none] [.int b'] := by
        intro b' hb' hb0'
        refine v_istore23 X rfl (Nat.le_of_ble_eq_true rfl) dL_law_859 ?_
        refine v_iinc26 (v := nI (i + 1)) X rfl (Nat.le_of_ble_eq_true rfl) dL_law_861 (nI_inc i) ?_
        refine v_goto (tgt := 817) X dL_law_864 (by decide) ?_
        exact vV.le (by exact ⟨rfl, rfl, rfl, rfl, rfl, rfl, rfl, rfl, rfl, rfl, rfl, rfl, rfl, rfl, rfl, rfl, rfl, rfl, rfl, rfl, rfl, trivial⟩) (ih (i + 1) (by omega) b' hb' hb0')
      have h854 : vV p l e room_1 s m A below meth c 31 z0 D cells slots Q M ad (jW cy ad S' S' ra le g0) 854 [some (.ref (cy 9)), some (.ref (ad 0)), some (.ref (ad 54)), some (.int (nI (sN S'))), some (.int (nI t)), none, some (.ref (ad n)), some (.ref (ad (n + 1 + sN S'))), some (.ref (ad (n + 1 + sN S' + 1))), none, none, none, none, none, some (.ref (ad (n + 1 + sN S' + 1 + 1 + sN S'))), some (.ref (ad (56 + w))), some (.int ms), some (.int rA), some (.int nA), some (.int (nI k)), some (.int (sH S' k 2)), some (.int (nI u)), some (.int (nI G)), some (.int b), some (.ref (ad 96)), some (.int (nI (sP S'))), some (.int (nI i)), some (.ref (ad (97 + sN S' + i))), none, none, none] [] := by
        refine v_ico (v := 1) X dL_law_854 (by decide) ?_
        refine v_goto (tgt := 859) X dL_law_855 (by decide) ?_
        exact h859 1 (Or.inr rfl) (fun q => absurd q (by decide))
      refine v_iload X dL_law_817 rfl ?_
      refine v_iload X dL_law_819 rfl ?_
      refine v_icmp_ge (tgt := 867) X dL_law_821 (by decide) (fun h5 => ?_) (fun h5 => ?_)
      · exact absurd h5 (nIge hi (by omega))
      refine v_aload X dL_law_824 rfl ?_
      refine v_iload X dL_law_826 rfl ?_
      refine v_aaldR X dL_law_828 (jS_p ho (by omega)) rfl hi (by omega) ?_
      refine v_astore27 X rfl (Nat.le_of_ble_eq_true rfl) dL_law_829 ?_
      refine v_iload X dL_law_831 rfl ?_
      refine v_if_ne (tgt := 854) X dL_law_833 (by decide) (fun c0 => ?_) (fun c0 => ?_)
      · exact h854
      have hb00 := hb0 c0
      refine v_aload X dL_law_836 rfl ?_
      refine v_ico (v := 0) X dL_law_838 (by decide) ?_
      refine v_iald X dL_law_839 (jS_pp ho (by omega) hi) rfl (by decide) (by decide) ?_
      refine v_iload X dL_law_840 rfl ?_
      refine v_icmp_eq (tgt := 854) X dL_law_842 (by decide) (fun c1 => ?_) (fun c1 => ?_)
      · exact h854
      refine v_aload X dL_law_845 rfl ?_
      refine v_ico (v := 1) X dL_law_847 (by decide) ?_
      refine v_iald X dL_law_848 (jS_pp ho (by omega) hi) rfl (by decide) (by decide) ?_
      refine v_iload X dL_law_849 rfl ?_
      refine v_icmp_ne (tgt := 858) X dL_law_851 (by decide) (fun c2 => ?_) (fun c2 => ?_)
      · refine v_ico (v := 0) X dL_law_858 (by decide) ?_
        refine h859 0 (Or.inl rfl) (fun _ p hp => ?_)
        by_cases e : p = i
        · subst e
          exact ⟨c1, c2⟩
        · exact hb00 p (by omega)
      · exact h854
  refine v_ico (v := 0) X dL_law_800 (by decide) ?_
  refine v_istore23 X rfl (Nat.le_of_ble_eq_true rfl) dL_law_801 ?_
  refine v_aload2 X dL_law_803 rfl ?_
  refine gf_L_81 X dL_law_804 (jS_s ho (by omega)) ?_
  refine v_astore24 X rfl (Nat.le_of_ble_eq_true rfl) dL_law_807 ?_
  refine v_aload X dL_law_809 rfl ?_
  refine v_alenA X dL_law_811 (jS_p ho (by omega)) ?_
  refine v_istore25 X rfl (Nat.le_of_ble_eq_true rfl) dL_law_812 ?_
  refine v_ico (v := 0) X dL_law_814 (by decide) ?_
  refine v_istore26 X rfl (Nat.le_of_ble_eq_true rfl) dL_law_815 ?_
  exact hO (sP S') 0 (by omega) 0 (Or.inl rfl) (fun _ p hp => absurd hp (Nat.not_lt_zero p))
end LF
