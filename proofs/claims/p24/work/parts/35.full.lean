/-! full, digest -/
def fullA (S : tS) : UInt64 := if 0 < sumS 1 S then FP.ddiv (FP.i2d (sumS 2 S)) (FP.i2d (sumS 1 S)) else 0
theorem nI_self {x : Int32} {N : Nat} (h1 : 0 ≤ x.toInt) (h2 : x.toInt ≤ N) (hN : N < 2 ^ 31) : ∃ j : Nat, j ≤ N ∧ (j : Int) = x.toInt ∧ x = nI j := by
  refine ⟨x.toInt.toNat, by omega, by omega, Int32.toInt_inj.mp ?_⟩
  rw [nI_toInt (by omega)]
  omega
theorem sums_ok {S : tS} (ho : ok S) : ∃ A B, sumS 2 S = nI A ∧ sumS 1 S = nI B ∧ A ≤ 9000 ∧ B ≤ 9000 ∧ 10 * sN S ≤ B := by
  have hN := ho.1
  have h2 := itr_inv (fun i a => a + sH S i 2) (fun i a => ∃ A, a = nI A ∧ A ≤ 900 * i) (sN S) (by
    rintro i a hi ⟨A, rfl, hA⟩
    obtain ⟨a1, b1, c1, _⟩ := ho.2.2.1 i hi
    obtain ⟨j, j1, j2, j3⟩ := nI_self (N := 900) c1.1 (by omega) (by decide)
    exact ⟨A + j, by show nI A + sH S i 2 = _; rw [j3, nI_add], by omega⟩) (sN S) 0 0 (Nat.zero_add _) ⟨0, rfl, Nat.le_refl _⟩
  have h1 := itr_inv (fun i a => a + sH S i 1) (fun i a => ∃ A, a = nI A ∧ A ≤ 900 * i ∧ 10 * i ≤ A) (sN S) (by
    rintro i a hi ⟨A, rfl, hA, hA2⟩
    obtain ⟨a1, b1, c1, _⟩ := ho.2.2.1 i hi
    obtain ⟨j, j1, j2, j3⟩ := nI_self (N := 900) (x := sH S i 1) (by omega) (by omega) (by decide)
    exact ⟨A + j, by show nI A + sH S i 1 = _; rw [j3, nI_add], by omega, by omega⟩) (sN S) 0 0 (Nat.zero_add _) ⟨0, rfl, Nat.le_refl _, Nat.le_refl _⟩
  obtain ⟨A, a1, a2⟩ := h2
  obtain ⟨B, b1, b2, b3⟩ := h1
  exact ⟨A, B, a1, b1, by omega, by omega, b3⟩
set_option maxRecDepth 100000 in
set_option maxHeartbeats 4000000 in
theorem c_full (l : Launch) {z0 n : Nat} {D : va_G} {cy : Nat → ClassId} {ad : Nat → Nat} {S : tS} {g0 : Nat → va_E} (hR : RO ad n g0) (ho : ok S) : Ct0 l yX4_full cX4_full 2 (some FieldType.double) 1 22 z0 D cy n ad (gV cy ad 4 S g0) [.ref (ad 0)] (some (.double (fullA S))) (gV cy ad 4 S g0) := by
  refine ct_of (by decide +kernel) 1 [some (.ref (ad 0)), none] (Nat.le_of_ble_eq_true rfl) rfl ?_
  intro p e s m below meth c X hr hlk hnm
  obtain ⟨A, B, a1, b1, a2, b2, b3⟩ := sums_ok ho
  refine v_aload0 X dX4_full_0 rfl ?_
  refine gf_X4_21 X dX4_full_1 hR.v.2 ?_
  refine cd_X4_148 X dX4_full_4 (c_X2_allHolds l hR.1 ho) (gV_v hR.1) rfl (Nat.le_of_ble_eq_true rfl) ⟨(Nat.le_of_ble_eq_true rfl), (Nat.le_of_ble_eq_true rfl), (Nat.le_of_ble_eq_true rfl), (Nat.le_of_ble_eq_true rfl)⟩ ?_
  refine v_istore1 X rfl (Nat.le_of_ble_eq_true rfl) dX4_full_7 ?_
  refine v_iload1 X dX4_full_8 rfl ?_
  refine v_if_le (tgt := 26) X dX4_full_9 (by decide) (fun hc => ?_) (fun hc => ?_)
  · refine v_dcon X dX4_full_26 ?_
    exact v_dret X hr hlk dX4_full_27 ⟨by unfold fullA; rw [if_neg (Int32.not_lt.mpr hc)], rfl, rfl, rfl⟩
  have hc' : 0 < sumS 1 S := Int32.not_le.mp hc
  have hq : vf_n64 (FP.ddiv (FP.i2d (sumS 2 S)) (FP.i2d (sumS 1 S))) := by
    rw [a1, b1]
    refine fq_div a2 b2 ?_
    rw [b1] at hc'
    rcases Nat.eq_zero_or_pos B with h | h
    · subst h; exact absurd hc' (by decide)
    · exact h
  refine v_aload0 X dX4_full_12 rfl ?_
  refine gf_X4_21 X dX4_full_13 hR.v.2 ?_
  refine cd_X4_132 X dX4_full_16 (c_X2_allWater l hR.1 ho) (gV_v hR.1) rfl (Nat.le_of_ble_eq_true rfl) ⟨(Nat.le_of_ble_eq_true rfl), (Nat.le_of_ble_eq_true rfl), (Nat.le_of_ble_eq_true rfl), (Nat.le_of_ble_eq_true rfl)⟩ ?_
  refine v_i2d X dX4_full_19 ?_
  refine v_iload1 X dX4_full_20 rfl ?_
  refine v_i2d X dX4_full_21 ?_
  refine v_ddiv X dX4_full_22 hq ?_
  refine v_goto (tgt := 27) X dX4_full_23 (by decide) ?_
  exact v_dret X hr hlk dX4_full_27 ⟨by unfold fullA; rw [if_pos hc'], rfl, rfl, rfl⟩
