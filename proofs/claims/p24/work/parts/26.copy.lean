/-! Village.copy -/
/-- cells laid over g from b on -/
def ovl (b m : Nat) (e : Nat → va_E) (g : Nat → va_E) : Nat → va_E := fun k => if b ≤ k ∧ k < b + m then e (k - b) else g k
theorem ovl_0 {b : Nat} {e : Nat → va_E} {g : Nat → va_E} : ovl b 0 e g = g := by
  funext k
  unfold ovl
  rw [if_neg (by omega)]
theorem ovl_up {b i : Nat} {e : Nat → va_E} {g : Nat → va_E} : va_up (ovl b i e g) (b + i) (e i) = ovl b (i + 1) e g := by
  funext k
  by_cases h : k = b + i
  · subst h; rw [va_up_self]; unfold ovl; rw [if_pos (by omega), show b + i - b = i by omega]
  · rw [va_up_ne _ _ h]
    unfold ovl
    by_cases h1 : b ≤ k ∧ k < b + i
    · rw [if_pos h1, if_pos (by omega)]
    · rw [if_neg h1, if_neg (by omega)]
theorem ovl_o {n b i k : Nat} {e : Nat → va_E} {g : Nat → va_E} {c : va_E} (h : k < b ∨ b + i ≤ k) (hk : vAt n g k c) : vAt n (ovl b i e g) k c := ⟨hk.1, by unfold ovl; rw [if_neg (by omega)]; exact hk.2⟩
theorem ovl_gV {cy : Nat → ClassId} {ad : Nat → Nat} {n B : Nat} {S T : tS} {g : Nat → va_E} (hN : sN S ≤ 10) (hP : sP S ≤ 12) (h1 : g (B + 1) = cHA cy ad B) (h2 : g (B + 2) = cPA cy ad B) : ovl (B + 13) (sP S) (fun i => cP (sQ S i)) (ovl (B + 3) (sN S) (fun i => cH (sH S i)) (va_up g B (cV ad B S))) = gV cy ad B S g := by
  funext k
  unfold gV ovl
  by_cases c0 : k = B
  · subst c0; rw [if_neg (by omega), if_neg (by omega), va_up_self, if_pos rfl]
  rw [if_neg c0, va_up_ne _ _ c0]
  by_cases c1 : k = B + 1
  · subst c1; rw [if_neg (by omega), if_neg (by omega), if_pos rfl, h1]
  by_cases c2 : k = B + 2
  · subst c2; rw [if_neg (by omega), if_neg (by omega), if_neg (by omega), if_pos rfl, h2]
  rw [if_neg c1, if_neg c2]
  by_cases c3 : B + 3 ≤ k ∧ k < B + 3 + sN S
  · rw [if_neg (by omega), if_pos c3, if_pos c3]
  · by_cases c4 : B + 13 ≤ k ∧ k < B + 13 + sP S
    · rw [if_pos c4, if_neg c3, if_pos c4]
    · rw [if_neg c4, if_neg c3, if_neg c3, if_neg c4]
set_option maxRecDepth 100000 in
set_option maxHeartbeats 4000000 in
theorem c_X2_copy (l : Launch) {z0 n : Nat} {D : va_G} {cy : Nat → ClassId} {ad : Nat → Nat} {B C : Nat} {S : tS} {g0 : Nat → va_E} (hC : C + 25 ≤ n) (hd : B + 25 ≤ C ∨ C + 25 ≤ B) (ho : ok S) (hv : VB cy ad n g0 B) : Ct0 l yX2_copy cX2_copy 3 none 1 21 z0 D cy n ad (gV cy ad C S g0) [.ref (ad B), .ref (ad C)] none (gV cy ad B S (gV cy ad C S g0)) := by
  refine ct_of (by decide +kernel) 1 [some (.ref (ad B)), some (.ref (ad C)), none] (Nat.le_of_ble_eq_true rfl) rfl ?_
  intro p e s m below meth c X hr hlk hnm
  obtain ⟨hB, ⟨T, hT⟩, hv1, hv2, hv3, hv4⟩ := hv
  have hN := ho.1
  have hP := ho.2.1
  have go : ∀ {k : Nat} {e : va_E}, (B ≤ k ∧ k < B + 25) → g0 k = e → vAt n (gV cy ad C S g0) k e := fun h1 h2 => gV_o (by unfold gOut; omega) ⟨by omega, h2⟩
  have ht : vAt n (gV cy ad C S g0) B (cV ad B T) := go (by omega) hT
  generalize hQ : MQ below (QcR z0 D (isR none n ad (gV cy ad B S (gV cy ad C S g0)))) ([.ref (ad B), .ref (ad C)] : List Value).toArray s 0 0 (fun q => z0 ≤ q) = Q
  refine vV.gg (va_up_eta _ _ _ ht.2).symm ?_
  refine v_aload0 X dX2_copy_0 rfl ?_
  refine v_aload1 X dX2_copy_1 rfl ?_
  refine gf_X2_29 X dX2_copy_2 ((gV_v hC).ne (by omega)) ?_
  refine pf_X2_29 X dX2_copy_5 ht.up ?_
  refine vV.gg (va_up_up _ _ _ _) ?_
  refine v_aload0 X dX2_copy_8 rfl ?_
  refine v_aload1 X dX2_copy_9 rfl ?_
  refine gf_X2_33 X dX2_copy_10 ((gV_v hC).ne (by omega)) ?_
  refine pf_X2_33 X dX2_copy_13 ht.up ?_
  refine vV.gg (va_up_up _ _ _ _) ?_
  refine v_aload0 X dX2_copy_16 rfl ?_
  refine v_aload1 X dX2_copy_17 rfl ?_
  refine gf_X2_36 X dX2_copy_18 ((gV_v hC).ne (by omega)) ?_
  refine pf_X2_36 X dX2_copy_21 ht.up ?_
  refine vV.gg (va_up_up _ _ _ _) ?_
  refine v_aload0 X dX2_copy_24 rfl ?_
  refine v_aload1 X dX2_copy_25 rfl ?_
  refine gf_X2_39 X dX2_copy_26 ((gV_v hC).ne (by omega)) ?_
  refine pf_X2_39 X dX2_copy_29 ht.up ?_
  refine vV.gg (va_up_up _ _ _ _) ?_
  refine v_aload0 X dX2_copy_32 rfl ?_
  refine v_aload1 X dX2_copy_33 rfl ?_
  refine gf_X2_42 X dX2_copy_34 ((gV_v hC).ne (by omega)) ?_
  refine pf_X2_42 X dX2_copy_37 ht.up ?_
  refine vV.gg (va_up_up _ _ _ _) ?_
  refine v_aload0 X dX2_copy_40 rfl ?_
  refine v_aload1 X dX2_copy_41 rfl ?_
  refine gf_X2_45 X dX2_copy_42 ((gV_v hC).ne (by omega)) ?_
  refine pf_X2_45 X dX2_copy_45 ht.up ?_
  refine vV.gg (va_up_up _ _ _ _) ?_
  refine v_aload0 X dX2_copy_48 rfl ?_
  refine v_aload1 X dX2_copy_49 rfl ?_
  refine gf_X2_48 X dX2_copy_50 ((gV_v hC).ne (by omega)) ?_
  refine pf_X2_48 X dX2_copy_53 ht.up ?_
  refine vV.gg (va_up_up _ _ _ _) ?_
  refine v_ico (v := 0) X dX2_copy_56 (by decide) ?_
  refine v_istore2 X rfl (Nat.le_of_ble_eq_true rfl) dX2_copy_57 ?_
  have hO : (∀ i, vAt n (ovl (B + 3) i (fun i => cH (sH S i)) (va_up (gV cy ad C S g0) B (cV ad B S))) B (cV ad B S)) ∧ (∀ i, vAt n (ovl (B + 3) i (fun i => cH (sH S i)) (va_up (gV cy ad C S g0) B (cV ad B S))) (B + 1) (cHA cy ad B)) ∧ (∀ i, vAt n (ovl (B + 3) i (fun i => cH (sH S i)) (va_up (gV cy ad C S g0) B (cV ad B S))) (B + 2) (cPA cy ad B)) ∧ (∀ i, i ≤ 10 → vAt n (ovl (B + 3) i (fun i => cH (sH S i)) (va_up (gV cy ad C S g0) B (cV ad B S))) C (cV ad C S)) ∧ (∀ i, i ≤ 10 → vAt n (ovl (B + 3) i (fun i => cH (sH S i)) (va_up (gV cy ad C S g0) B (cV ad B S))) (C + 1) (cHA cy ad C)) ∧ (∀ i, i ≤ 10 → vAt n (ovl (B + 3) i (fun i => cH (sH S i)) (va_up (gV cy ad C S g0) B (cV ad B S))) (C + 2) (cPA cy ad C)) :=
    ⟨fun i => ovl_o (by omega) ht.up, fun i => ovl_o (by omega) ((go (by omega) hv1).ne (by omega)), fun i => ovl_o (by omega) ((go (by omega) hv2).ne (by omega)), fun i hi => ovl_o (by omega) ((gV_v hC).ne (by omega)), fun i hi => ovl_o (by omega) ((gV_ha hC).ne (by omega)), fun i hi => ovl_o (by omega) ((gV_pa hC).ne (by omega))⟩
  refine vV.gg (show _ = ovl (B + 3) 0 (fun i => cH (sH S i)) (va_up (gV cy ad C S g0) B (cV ad B S)) from ovl_0.symm) ?_
  refine loop_up (S := Unit) (fun _ _ => ()) (fun i _ => vV p l e (rmv 1 21) s m ([.ref (ad B), .ref (ad C)] : List Value).toArray below meth c 3 z0 D 0 0 Q n ad (ovl (B + 3) i (fun i => cH (sH S i)) (va_up (gV cy ad C S g0) B (cV ad B S))) 58 [some (.ref (ad B)), some (.ref (ad C)), some (.int (nI i))] []) (sN S) ?_ (sN S) 0 () (Nat.zero_add _) ?_
  · intro i _ hi hk
    obtain ⟨f, hf⟩ := hv3 i (by omega)
    have hk1 : vAt n (ovl (B + 3) i (fun i => cH (sH S i)) (va_up (gV cy ad C S g0) B (cV ad B S))) (B + 3 + i) (cH f) := ovl_o (by omega) ((go (by omega) hf).ne (by omega))
    have hk2 : vAt n (ovl (B + 3) i (fun i => cH (sH S i)) (va_up (gV cy ad C S g0) B (cV ad B S))) (C + 3 + i) (cH (sH S i)) := ovl_o (by omega) ((gV_h hC hN hi).ne (by omega))
    refine v_iload2 X dX2_copy_58 rfl ?_
    refine v_aload0 X dX2_copy_59 rfl ?_
    refine gf_X2_29 X dX2_copy_60 (hO.1 i) ?_
    refine v_icmp_ge (tgt := 87) X dX2_copy_63 (by decide) (fun hc => ?_) (fun hc => ?_)
    · exact absurd hc (nIge hi (N31 ho))
    · refine v_aload0 X dX2_copy_66 rfl ?_
      refine gf_X2_13 X dX2_copy_67 (hO.1 i) ?_
      refine v_iload2 X dX2_copy_70 rfl ?_
      refine v_aaldH X dX2_copy_71 (hO.2.1 i) rfl (by omega) ?_
      refine v_aload1 X dX2_copy_72 rfl ?_
      refine gf_X2_13 X dX2_copy_73 (hO.2.2.2.1 i (by omega)) ?_
      refine v_iload2 X dX2_copy_76 rfl ?_
      refine v_aaldH X dX2_copy_77 (hO.2.2.2.2.1 i (by omega)) rfl (by omega) ?_
      refine cd_X2_51 X dX2_copy_78 (c_X0_copy l hk1 hk2 (by omega)) hk1 rfl (Nat.le_of_ble_eq_true rfl) ⟨(Nat.le_of_ble_eq_true rfl), (Nat.le_of_ble_eq_true rfl), (Nat.le_of_ble_eq_true rfl), (Nat.le_of_ble_eq_true rfl)⟩ ?_
      refine vV.gg (ovl_up (e := fun i => cH (sH S i))) ?_
      refine v_iinc2 (v := nI (i + 1)) X rfl (Nat.le_of_ble_eq_true rfl) dX2_copy_81 (nI_inc i) ?_
      refine v_goto (tgt := 58) X dX2_copy_84 (by decide) ?_
      exact hk
  refine v_iload2 X dX2_copy_58 rfl ?_
  refine v_aload0 X dX2_copy_59 rfl ?_
  refine gf_X2_29 X dX2_copy_60 (hO.1 _) ?_
  refine v_icmp_ge (tgt := 87) X dX2_copy_63 (by decide) (fun hc => ?_) (fun hc => ?_)
  · have hO2 : (∀ i, vAt n (ovl (B + 13) i (fun i => cP (sQ S i)) (ovl (B + 3) (sN S) (fun i => cH (sH S i)) (va_up (gV cy ad C S g0) B (cV ad B S)))) B (cV ad B S)) ∧ (∀ i, vAt n (ovl (B + 13) i (fun i => cP (sQ S i)) (ovl (B + 3) (sN S) (fun i => cH (sH S i)) (va_up (gV cy ad C S g0) B (cV ad B S)))) (B + 2) (cPA cy ad B)) ∧ True ∧ (∀ i, i ≤ 12 → vAt n (ovl (B + 13) i (fun i => cP (sQ S i)) (ovl (B + 3) (sN S) (fun i => cH (sH S i)) (va_up (gV cy ad C S g0) B (cV ad B S)))) C (cV ad C S)) ∧ (∀ i, i ≤ 12 → vAt n (ovl (B + 13) i (fun i => cP (sQ S i)) (ovl (B + 3) (sN S) (fun i => cH (sH S i)) (va_up (gV cy ad C S g0) B (cV ad B S)))) (C + 2) (cPA cy ad C)) ∧ True :=
      ⟨fun i => ovl_o (by omega) (hO.1 _), fun i => ovl_o (by omega) (hO.2.2.1 _), trivial, fun i hi => ovl_o (by omega) (hO.2.2.2.1 _ hN), fun i hi => ovl_o (by omega) (hO.2.2.2.2.2 _ hN), trivial⟩
    refine v_ico (v := 0) X dX2_copy_87 (by decide) ?_
    refine v_istore2 X rfl (Nat.le_of_ble_eq_true rfl) dX2_copy_88 ?_
    refine vV.gg (show _ = ovl (B + 13) 0 (fun i => cP (sQ S i)) (ovl (B + 3) (sN S) (fun i => cH (sH S i)) (va_up (gV cy ad C S g0) B (cV ad B S))) from ovl_0.symm) ?_
    refine loop_up (S := Unit) (fun _ _ => ()) (fun i _ => vV p l e (rmv 1 21) s m ([.ref (ad B), .ref (ad C)] : List Value).toArray below meth c 3 z0 D 0 0 Q n ad (ovl (B + 13) i (fun i => cP (sQ S i)) (ovl (B + 3) (sN S) (fun i => cH (sH S i)) (va_up (gV cy ad C S g0) B (cV ad B S)))) 89 [some (.ref (ad B)), some (.ref (ad C)), some (.int (nI i))] []) (sP S) ?_ (sP S) 0 () (Nat.zero_add _) ?_
    · intro i _ hi hk
      obtain ⟨f, hf⟩ := hv4 i (by omega)
      obtain ⟨_, _, _, _, _, _, _, hb⟩ := okQ_ends ho hi
      have hk1 : vAt n (ovl (B + 13) i (fun i => cP (sQ S i)) (ovl (B + 3) (sN S) (fun i => cH (sH S i)) (va_up (gV cy ad C S g0) B (cV ad B S)))) (B + 13 + i) (cP f) := ovl_o (by omega) (ovl_o (by omega) ((go (by omega) hf).ne (by omega)))
      have hk2 : vAt n (ovl (B + 13) i (fun i => cP (sQ S i)) (ovl (B + 3) (sN S) (fun i => cH (sH S i)) (va_up (gV cy ad C S g0) B (cV ad B S)))) (C + 13 + i) (cP (sQ S i)) := ovl_o (by omega) (ovl_o (by omega) ((gV_p hC hN hP hi).ne (by omega)))
      refine v_iload2 X dX2_copy_89 rfl ?_
      refine v_aload0 X dX2_copy_90 rfl ?_
      refine gf_X2_33 X dX2_copy_91 (hO2.1 i) ?_
      refine v_icmp_ge (tgt := 118) X dX2_copy_94 (by decide) (fun hc => ?_) (fun hc => ?_)
      · exact absurd hc (nIge hi (P31 ho))
      · refine v_aload0 X dX2_copy_97 rfl ?_
        refine gf_X2_19 X dX2_copy_98 (hO2.1 i) ?_
        refine v_iload2 X dX2_copy_101 rfl ?_
        refine v_aaldP X dX2_copy_102 (hO2.2.1 i) rfl (by omega) ?_
        refine v_aload1 X dX2_copy_103 rfl ?_
        refine gf_X2_19 X dX2_copy_104 (hO2.2.2.2.1 i (by omega)) ?_
        refine v_iload2 X dX2_copy_107 rfl ?_
        refine v_aaldP X dX2_copy_108 (hO2.2.2.2.2.1 i (by omega)) rfl (by omega) ?_
        refine cd_X2_55 X dX2_copy_109 (c_X1_copy l hk1 hk2 (by omega) hb) hk1 rfl (Nat.le_of_ble_eq_true rfl) ⟨(Nat.le_of_ble_eq_true rfl), (Nat.le_of_ble_eq_true rfl), (Nat.le_of_ble_eq_true rfl), (Nat.le_of_ble_eq_true rfl)⟩ ?_
        refine vV.gg (ovl_up (e := fun i => cP (sQ S i))) ?_
        refine v_iinc2 (v := nI (i + 1)) X rfl (Nat.le_of_ble_eq_true rfl) dX2_copy_112 (nI_inc i) ?_
        refine v_goto (tgt := 89) X dX2_copy_115 (by decide) ?_
        exact hk
    refine v_iload2 X dX2_copy_89 rfl ?_
    refine v_aload0 X dX2_copy_90 rfl ?_
    refine gf_X2_33 X dX2_copy_91 (hO2.1 _) ?_
    refine v_icmp_ge (tgt := 118) X dX2_copy_94 (by decide) (fun hc => ?_) (fun hc => ?_)
    · refine vV.gg (ovl_gV (T := S) (n := n) hN hP (go (by omega) hv1).2 (go (by omega) hv2).2) ?_
      rw [← hQ]
      exact v_vret X hr hlk dX2_copy_118 ⟨rfl, rfl, rfl, rfl⟩
    · exact absurd (Int32.le_refl _) hc
  · exact absurd (Int32.le_refl _) hc
