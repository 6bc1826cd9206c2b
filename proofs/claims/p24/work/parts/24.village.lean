/-! Village, by contracts -/
theorem N31 {S : tS} (ho : ok S) : sN S < 2 ^ 31 := by have := ho.1; omega
theorem P31 {S : tS} (ho : ok S) : sP S < 2 ^ 31 := by have := ho.2.1; omega
set_option maxRecDepth 100000 in
set_option maxHeartbeats 4000000 in
theorem c_X2_hasHouse (l : Launch) {z0 n : Nat} {D : va_G} {cy : Nat → ClassId} {ad : Nat → Nat} {x : Int32} {B : Nat} {S : tS} {g0 : Nat → va_E} (hB : B + 25 ≤ n) : Ct0 l yX2_hasHouse cX2_hasHouse 2 (some FieldType.boolean) 0 0 z0 D cy n ad (gV cy ad B S g0) [.ref (ad B), .int x] (some (.int (hasB (sN S) x))) (gV cy ad B S g0) := by
  refine ct_of (by decide +kernel) 0 [some (.ref (ad B)), some (.int x)] (Nat.le_of_ble_eq_true rfl) rfl ?_
  intro p e s m below meth c X hr hlk hnm
  refine v_iload1 X dX2_hasHouse_0 rfl ?_
  refine v_if_lt (tgt := 16) X dX2_hasHouse_1 (by decide) (fun h1 => ?_) (fun h1 => ?_)
  · refine v_ico (v := 0) X dX2_hasHouse_16 (by decide) ?_
    exact v_zret X hr hlk dX2_hasHouse_17 rfl ⟨by unfold hasB; rw [if_pos h1], rfl, rfl, rfl⟩
  · refine v_iload1 X dX2_hasHouse_4 rfl ?_
    refine v_aload0 X dX2_hasHouse_5 rfl ?_
    refine gf_X2_29 X dX2_hasHouse_6 (gV_v hB) ?_
    refine v_icmp_ge (tgt := 16) X dX2_hasHouse_9 (by decide) (fun h2 => ?_) (fun h2 => ?_)
    · refine v_ico (v := 0) X dX2_hasHouse_16 (by decide) ?_
      exact v_zret X hr hlk dX2_hasHouse_17 rfl ⟨by unfold hasB; rw [if_neg h1, if_pos h2], rfl, rfl, rfl⟩
    · refine v_ico (v := 1) X dX2_hasHouse_12 (by decide) ?_
      refine v_goto (tgt := 17) X dX2_hasHouse_13 (by decide) ?_
      exact v_zret X hr hlk dX2_hasHouse_17 rfl ⟨by unfold hasB; rw [if_neg h1, if_neg h2], rfl, rfl, rfl⟩
set_option maxRecDepth 100000 in
set_option maxHeartbeats 4000000 in
theorem c_X2_hasPipe (l : Launch) {z0 n : Nat} {D : va_G} {cy : Nat → ClassId} {ad : Nat → Nat} {x : Int32} {B : Nat} {S : tS} {g0 : Nat → va_E} (hB : B + 25 ≤ n) : Ct0 l yX2_hasPipe cX2_hasPipe 2 (some FieldType.boolean) 0 0 z0 D cy n ad (gV cy ad B S g0) [.ref (ad B), .int x] (some (.int (hasB (sP S) x))) (gV cy ad B S g0) := by
  refine ct_of (by decide +kernel) 0 [some (.ref (ad B)), some (.int x)] (Nat.le_of_ble_eq_true rfl) rfl ?_
  intro p e s m below meth c X hr hlk hnm
  refine v_iload1 X dX2_hasPipe_0 rfl ?_
  refine v_if_lt (tgt := 16) X dX2_hasPipe_1 (by decide) (fun h1 => ?_) (fun h1 => ?_)
  · refine v_ico (v := 0) X dX2_hasPipe_16 (by decide) ?_
    exact v_zret X hr hlk dX2_hasPipe_17 rfl ⟨by unfold hasB; rw [if_pos h1], rfl, rfl, rfl⟩
  · refine v_iload1 X dX2_hasPipe_4 rfl ?_
    refine v_aload0 X dX2_hasPipe_5 rfl ?_
    refine gf_X2_33 X dX2_hasPipe_6 (gV_v hB) ?_
    refine v_icmp_ge (tgt := 16) X dX2_hasPipe_9 (by decide) (fun h2 => ?_) (fun h2 => ?_)
    · refine v_ico (v := 0) X dX2_hasPipe_16 (by decide) ?_
      exact v_zret X hr hlk dX2_hasPipe_17 rfl ⟨by unfold hasB; rw [if_neg h1, if_pos h2], rfl, rfl, rfl⟩
    · refine v_ico (v := 1) X dX2_hasPipe_12 (by decide) ?_
      refine v_goto (tgt := 17) X dX2_hasPipe_13 (by decide) ?_
      exact v_zret X hr hlk dX2_hasPipe_17 rfl ⟨by unfold hasB; rw [if_neg h1, if_neg h2], rfl, rfl, rfl⟩
set_option maxRecDepth 100000 in
set_option maxHeartbeats 4000000 in
theorem c_X2_allWater (l : Launch) {z0 n : Nat} {D : va_G} {cy : Nat → ClassId} {ad : Nat → Nat} {B : Nat} {S : tS} {g0 : Nat → va_E} (hB : B + 25 ≤ n) (ho : ok S) : Ct0 l yX2_allWater cX2_allWater 3 (some FieldType.int) 0 0 z0 D cy n ad (gV cy ad B S g0) [.ref (ad B)] (some (.int (sumS 2 S))) (gV cy ad B S g0) := by
  refine ct_of (by decide +kernel) 2 [some (.ref (ad B)), none, none] (Nat.le_of_ble_eq_true rfl) rfl ?_
  intro p e s m below meth c X hr hlk hnm
  generalize hQ : MQ below (QcR z0 D (isR (some (.int (sumS 2 S))) n ad (gV cy ad B S g0))) ([.ref (ad B)] : List Value).toArray s 0 0 (fun q => z0 ≤ q) = Q
  refine v_ico (v := 0) X dX2_allWater_0 (by decide) ?_
  refine v_istore1 X rfl (Nat.le_of_ble_eq_true rfl) dX2_allWater_1 ?_
  refine v_ico (v := 0) X dX2_allWater_2 (by decide) ?_
  refine v_istore2 X rfl (Nat.le_of_ble_eq_true rfl) dX2_allWater_3 ?_
  refine loop_up (fun i a => a + sH S i 2) (fun i a => vV p l e (rmv 0 0) s m ([.ref (ad B)] : List Value).toArray below meth c 3 z0 D 0 0 Q n ad (gV cy ad B S g0) 4 [some (.ref (ad B)), some (.int a), some (.int (nI i))] []) (sN S) ?_ (sN S) 0 0 (Nat.zero_add _) ?_
  · intro i a hi hk
    refine v_iload2 X dX2_allWater_4 rfl ?_
    refine v_aload0 X dX2_allWater_5 rfl ?_
    refine gf_X2_29 X dX2_allWater_6 (gV_v hB) ?_
    refine v_icmp_ge (tgt := 30) X dX2_allWater_9 (by decide) (fun hc => ?_) (fun hc => ?_)
    · exact absurd hc (nIge hi (N31 ho))
    · refine v_iload1 X dX2_allWater_12 rfl ?_
      refine v_aload0 X dX2_allWater_13 rfl ?_
      refine gf_X2_13 X dX2_allWater_14 (gV_v hB) ?_
      refine v_iload2 X dX2_allWater_17 rfl ?_
      refine v_aaldH X dX2_allWater_18 (gV_ha hB) rfl (Nat.lt_of_lt_of_le hi ho.1) ?_
      refine gf_X2_151 X dX2_allWater_19 (gV_h hB ho.1 hi) ?_
      refine v_iadd X dX2_allWater_22 ?_
      refine v_istore1 X rfl (Nat.le_of_ble_eq_true rfl) dX2_allWater_23 ?_
      refine v_iinc2 (v := nI (i + 1)) X rfl (Nat.le_of_ble_eq_true rfl) dX2_allWater_24 (nI_inc i) ?_
      refine v_goto (tgt := 4) X dX2_allWater_27 (by decide) ?_
      exact hk
  · refine v_iload2 X dX2_allWater_4 rfl ?_
    refine v_aload0 X dX2_allWater_5 rfl ?_
    refine gf_X2_29 X dX2_allWater_6 (gV_v hB) ?_
    refine v_icmp_ge (tgt := 30) X dX2_allWater_9 (by decide) (fun hc => ?_) (fun hc => ?_)
    · refine v_iload1 X dX2_allWater_30 rfl ?_
      rw [← hQ]
      exact v_iret X hr hlk dX2_allWater_31 ⟨rfl, rfl, rfl, rfl⟩
    · exact absurd (Int32.le_refl _) hc
set_option maxRecDepth 100000 in
set_option maxHeartbeats 4000000 in
theorem c_X2_allHolds (l : Launch) {z0 n : Nat} {D : va_G} {cy : Nat → ClassId} {ad : Nat → Nat} {B : Nat} {S : tS} {g0 : Nat → va_E} (hB : B + 25 ≤ n) (ho : ok S) : Ct0 l yX2_allHolds cX2_allHolds 3 (some FieldType.int) 0 0 z0 D cy n ad (gV cy ad B S g0) [.ref (ad B)] (some (.int (sumS 1 S))) (gV cy ad B S g0) := by
  refine ct_of (by decide +kernel) 2 [some (.ref (ad B)), none, none] (Nat.le_of_ble_eq_true rfl) rfl ?_
  intro p e s m below meth c X hr hlk hnm
  generalize hQ : MQ below (QcR z0 D (isR (some (.int (sumS 1 S))) n ad (gV cy ad B S g0))) ([.ref (ad B)] : List Value).toArray s 0 0 (fun q => z0 ≤ q) = Q
  refine v_ico (v := 0) X dX2_allHolds_0 (by decide) ?_
  refine v_istore1 X rfl (Nat.le_of_ble_eq_true rfl) dX2_allHolds_1 ?_
  refine v_ico (v := 0) X dX2_allHolds_2 (by decide) ?_
  refine v_istore2 X rfl (Nat.le_of_ble_eq_true rfl) dX2_allHolds_3 ?_
  refine loop_up (fun i a => a + sH S i 1) (fun i a => vV p l e (rmv 0 0) s m ([.ref (ad B)] : List Value).toArray below meth c 3 z0 D 0 0 Q n ad (gV cy ad B S g0) 4 [some (.ref (ad B)), some (.int a), some (.int (nI i))] []) (sN S) ?_ (sN S) 0 0 (Nat.zero_add _) ?_
  · intro i a hi hk
    refine v_iload2 X dX2_allHolds_4 rfl ?_
    refine v_aload0 X dX2_allHolds_5 rfl ?_
    refine gf_X2_29 X dX2_allHolds_6 (gV_v hB) ?_
    refine v_icmp_ge (tgt := 30) X dX2_allHolds_9 (by decide) (fun hc => ?_) (fun hc => ?_)
    · exact absurd hc (nIge hi (N31 ho))
    · refine v_iload1 X dX2_allHolds_12 rfl ?_
      refine v_aload0 X dX2_allHolds_13 rfl ?_
      refine gf_X2_13 X dX2_allHolds_14 (gV_v hB) ?_
      refine v_iload2 X dX2_allHolds_17 rfl ?_
      refine v_aaldH X dX2_allHolds_18 (gV_ha hB) rfl (Nat.lt_of_lt_of_le hi ho.1) ?_
      refine gf_X2_61 X dX2_allHolds_19 (gV_h hB ho.1 hi) ?_
      refine v_iadd X dX2_allHolds_22 ?_
      refine v_istore1 X rfl (Nat.le_of_ble_eq_true rfl) dX2_allHolds_23 ?_
      refine v_iinc2 (v := nI (i + 1)) X rfl (Nat.le_of_ble_eq_true rfl) dX2_allHolds_24 (nI_inc i) ?_
      refine v_goto (tgt := 4) X dX2_allHolds_27 (by decide) ?_
      exact hk
  · refine v_iload2 X dX2_allHolds_4 rfl ?_
    refine v_aload0 X dX2_allHolds_5 rfl ?_
    refine gf_X2_29 X dX2_allHolds_6 (gV_v hB) ?_
    refine v_icmp_ge (tgt := 30) X dX2_allHolds_9 (by decide) (fun hc => ?_) (fun hc => ?_)
    · refine v_iload1 X dX2_allHolds_30 rfl ?_
      rw [← hQ]
      exact v_iret X hr hlk dX2_allHolds_31 ⟨rfl, rfl, rfl, rfl⟩
    · exact absurd (Int32.le_refl _) hc
set_option maxRecDepth 100000 in
set_option maxHeartbeats 4000000 in
theorem c_X2_allThirst (l : Launch) {z0 n : Nat} {D : va_G} {cy : Nat → ClassId} {ad : Nat → Nat} {B : Nat} {S : tS} {g0 : Nat → va_E} (hB : B + 25 ≤ n) (ho : ok S) : Ct0 l yX2_allThirst cX2_allThirst 3 (some FieldType.int) 0 0 z0 D cy n ad (gV cy ad B S g0) [.ref (ad B)] (some (.int (sumS 7 S))) (gV cy ad B S g0) := by
  refine ct_of (by decide +kernel) 2 [some (.ref (ad B)), none, none] (Nat.le_of_ble_eq_true rfl) rfl ?_
  intro p e s m below meth c X hr hlk hnm
  generalize hQ : MQ below (QcR z0 D (isR (some (.int (sumS 7 S))) n ad (gV cy ad B S g0))) ([.ref (ad B)] : List Value).toArray s 0 0 (fun q => z0 ≤ q) = Q
  refine v_ico (v := 0) X dX2_allThirst_0 (by decide) ?_
  refine v_istore1 X rfl (Nat.le_of_ble_eq_true rfl) dX2_allThirst_1 ?_
  refine v_ico (v := 0) X dX2_allThirst_2 (by decide) ?_
  refine v_istore2 X rfl (Nat.le_of_ble_eq_true rfl) dX2_allThirst_3 ?_
  refine loop_up (fun i a => a + sH S i 7) (fun i a => vV p l e (rmv 0 0) s m ([.ref (ad B)] : List Value).toArray below meth c 3 z0 D 0 0 Q n ad (gV cy ad B S g0) 4 [some (.ref (ad B)), some (.int a), some (.int (nI i))] []) (sN S) ?_ (sN S) 0 0 (Nat.zero_add _) ?_
  · intro i a hi hk
    refine v_iload2 X dX2_allThirst_4 rfl ?_
    refine v_aload0 X dX2_allThirst_5 rfl ?_
    refine gf_X2_29 X dX2_allThirst_6 (gV_v hB) ?_
    refine v_icmp_ge (tgt := 30) X dX2_allThirst_9 (by decide) (fun hc => ?_) (fun hc => ?_)
    · exact absurd hc (nIge hi (N31 ho))
    · refine v_iload1 X dX2_allThirst_12 rfl ?_
      refine v_aload0 X dX2_allThirst_13 rfl ?_
      refine gf_X2_13 X dX2_allThirst_14 (gV_v hB) ?_
      refine v_iload2 X dX2_allThirst_17 rfl ?_
      refine v_aaldH X dX2_allThirst_18 (gV_ha hB) rfl (Nat.lt_of_lt_of_le hi ho.1) ?_
      refine gf_X2_154 X dX2_allThirst_19 (gV_h hB ho.1 hi) ?_
      refine v_iadd X dX2_allThirst_22 ?_
      refine v_istore1 X rfl (Nat.le_of_ble_eq_true rfl) dX2_allThirst_23 ?_
      refine v_iinc2 (v := nI (i + 1)) X rfl (Nat.le_of_ble_eq_true rfl) dX2_allThirst_24 (nI_inc i) ?_
      refine v_goto (tgt := 4) X dX2_allThirst_27 (by decide) ?_
      exact hk
  · refine v_iload2 X dX2_allThirst_4 rfl ?_
    refine v_aload0 X dX2_allThirst_5 rfl ?_
    refine gf_X2_29 X dX2_allThirst_6 (gV_v hB) ?_
    refine v_icmp_ge (tgt := 30) X dX2_allThirst_9 (by decide) (fun hc => ?_) (fun hc => ?_)
    · refine v_iload1 X dX2_allThirst_30 rfl ?_
      rw [← hQ]
      exact v_iret X hr hlk dX2_allThirst_31 ⟨rfl, rfl, rfl, rfl⟩
    · exact absurd (Int32.le_refl _) hc
set_option maxRecDepth 100000 in
set_option maxHeartbeats 4000000 in
theorem c_X2_allWatered (l : Launch) {z0 n : Nat} {D : va_G} {cy : Nat → ClassId} {ad : Nat → Nat} {B : Nat} {S : tS} {g0 : Nat → va_E} (hB : B + 25 ≤ n) (ho : ok S) : Ct0 l yX2_allWatered cX2_allWatered 3 (some FieldType.int) 0 0 z0 D cy n ad (gV cy ad B S g0) [.ref (ad B)] (some (.int (sumS 8 S))) (gV cy ad B S g0) := by
  refine ct_of (by decide +kernel) 2 [some (.ref (ad B)), none, none] (Nat.le_of_ble_eq_true rfl) rfl ?_
  intro p e s m below meth c X hr hlk hnm
  generalize hQ : MQ below (QcR z0 D (isR (some (.int (sumS 8 S))) n ad (gV cy ad B S g0))) ([.ref (ad B)] : List Value).toArray s 0 0 (fun q => z0 ≤ q) = Q
  refine v_ico (v := 0) X dX2_allWatered_0 (by decide) ?_
  refine v_istore1 X rfl (Nat.le_of_ble_eq_true rfl) dX2_allWatered_1 ?_
  refine v_ico (v := 0) X dX2_allWatered_2 (by decide) ?_
  refine v_istore2 X rfl (Nat.le_of_ble_eq_true rfl) dX2_allWatered_3 ?_
  refine loop_up (fun i a => a + sH S i 8) (fun i a => vV p l e (rmv 0 0) s m ([.ref (ad B)] : List Value).toArray below meth c 3 z0 D 0 0 Q n ad (gV cy ad B S g0) 4 [some (.ref (ad B)), some (.int a), some (.int (nI i))] []) (sN S) ?_ (sN S) 0 0 (Nat.zero_add _) ?_
  · intro i a hi hk
    refine v_iload2 X dX2_allWatered_4 rfl ?_
    refine v_aload0 X dX2_allWatered_5 rfl ?_
    refine gf_X2_29 X dX2_allWatered_6 (gV_v hB) ?_
    refine v_icmp_ge (tgt := 30) X dX2_allWatered_9 (by decide) (fun hc => ?_) (fun hc => ?_)
    · exact absurd hc (nIge hi (N31 ho))
    · refine v_iload1 X dX2_allWatered_12 rfl ?_
      refine v_aload0 X dX2_allWatered_13 rfl ?_
      refine gf_X2_13 X dX2_allWatered_14 (gV_v hB) ?_
      refine v_iload2 X dX2_allWatered_17 rfl ?_
      refine v_aaldH X dX2_allWatered_18 (gV_ha hB) rfl (Nat.lt_of_lt_of_le hi ho.1) ?_
      refine gf_X2_157 X dX2_allWatered_19 (gV_h hB ho.1 hi) ?_
      refine v_iadd X dX2_allWatered_22 ?_
      refine v_istore1 X rfl (Nat.le_of_ble_eq_true rfl) dX2_allWatered_23 ?_
      refine v_iinc2 (v := nI (i + 1)) X rfl (Nat.le_of_ble_eq_true rfl) dX2_allWatered_24 (nI_inc i) ?_
      refine v_goto (tgt := 4) X dX2_allWatered_27 (by decide) ?_
      exact hk
  · refine v_iload2 X dX2_allWatered_4 rfl ?_
    refine v_aload0 X dX2_allWatered_5 rfl ?_
    refine gf_X2_29 X dX2_allWatered_6 (gV_v hB) ?_
    refine v_icmp_ge (tgt := 30) X dX2_allWatered_9 (by decide) (fun hc => ?_) (fun hc => ?_)
    · refine v_iload1 X dX2_allWatered_30 rfl ?_
      rw [← hQ]
      exact v_iret X hr hlk dX2_allWatered_31 ⟨rfl, rfl, rfl, rfl⟩
    · exact absurd (Int32.le_refl _) hc
set_option maxRecDepth 100000 in
set_option maxHeartbeats 4000000 in
theorem c_X2_openValves (l : Launch) {z0 n : Nat} {D : va_G} {cy : Nat → ClassId} {ad : Nat → Nat} {B : Nat} {S : tS} {g0 : Nat → va_E} (hB : B + 25 ≤ n) (ho : ok S) : Ct0 l yX2_openValves cX2_openValves 3 (some FieldType.int) 0 0 z0 D cy n ad (gV cy ad B S g0) [.ref (ad B)] (some (.int (openS S))) (gV cy ad B S g0) := by
  refine ct_of (by decide +kernel) 2 [some (.ref (ad B)), none, none] (Nat.le_of_ble_eq_true rfl) rfl ?_
  intro p e s m below meth c X hr hlk hnm
  generalize hQ : MQ below (QcR z0 D (isR (some (.int (openS S))) n ad (gV cy ad B S g0))) ([.ref (ad B)] : List Value).toArray s 0 0 (fun q => z0 ≤ q) = Q
  refine v_ico (v := 0) X dX2_openValves_0 (by decide) ?_
  refine v_istore1 X rfl (Nat.le_of_ble_eq_true rfl) dX2_openValves_1 ?_
  refine v_ico (v := 0) X dX2_openValves_2 (by decide) ?_
  refine v_istore2 X rfl (Nat.le_of_ble_eq_true rfl) dX2_openValves_3 ?_
  refine loop_up (fun i a => a + sQ S i 3) (fun i a => vV p l e (rmv 0 0) s m ([.ref (ad B)] : List Value).toArray below meth c 3 z0 D 0 0 Q n ad (gV cy ad B S g0) 4 [some (.ref (ad B)), some (.int a), some (.int (nI i))] []) (sP S) ?_ (sP S) 0 0 (Nat.zero_add _) ?_
  · intro i a hi hk
    obtain ⟨_, _, _, _, _, _, _, hb⟩ := okQ_ends ho hi
    refine v_iload2 X dX2_openValves_4 rfl ?_
    refine v_aload0 X dX2_openValves_5 rfl ?_
    refine gf_X2_33 X dX2_openValves_6 (gV_v hB) ?_
    refine v_icmp_ge (tgt := 33) X dX2_openValves_9 (by decide) (fun hc => ?_) (fun hc => ?_)
    · exact absurd hc (nIge hi (P31 ho))
    · refine v_aload0 X dX2_openValves_12 rfl ?_
      refine gf_X2_19 X dX2_openValves_13 (gV_v hB) ?_
      refine v_iload2 X dX2_openValves_16 rfl ?_
      refine v_aaldP X dX2_openValves_17 (gV_pa hB) rfl (Nat.lt_of_lt_of_le hi ho.2.1) ?_
      refine gf_X2_79 X dX2_openValves_18 (gV_p hB ho.1 ho.2.1 hi) ?_
      refine v_if_eq (tgt := 27) X dX2_openValves_21 (by decide) (fun hd => ?_) (fun hd => ?_)
      · refine v_iinc2 (v := nI (i + 1)) X rfl (Nat.le_of_ble_eq_true rfl) dX2_openValves_27 (nI_inc i) ?_
        refine v_goto (tgt := 4) X dX2_openValves_30 (by decide) ?_
        rw [hd, Int32.add_zero] at hk
        exact hk
      · refine v_iinc1 (v := a + 1) X rfl (Nat.le_of_ble_eq_true rfl) dX2_openValves_24 rfl ?_
        refine v_iinc2 (v := nI (i + 1)) X rfl (Nat.le_of_ble_eq_true rfl) dX2_openValves_27 (nI_inc i) ?_
        refine v_goto (tgt := 4) X dX2_openValves_30 (by decide) ?_
        rw [hb.resolve_left hd] at hk
        exact hk
  · refine v_iload2 X dX2_openValves_4 rfl ?_
    refine v_aload0 X dX2_openValves_5 rfl ?_
    refine gf_X2_33 X dX2_openValves_6 (gV_v hB) ?_
    refine v_icmp_ge (tgt := 33) X dX2_openValves_9 (by decide) (fun hc => ?_) (fun hc => ?_)
    · refine v_iload1 X dX2_openValves_33 rfl ?_
      rw [← hQ]
      exact v_iret X hr hlk dX2_openValves_34 ⟨rfl, rfl, rfl, rfl⟩
    · exact absurd (Int32.le_refl _) hc
set_option maxRecDepth 100000 in
set_option maxHeartbeats 4000000 in
theorem c_X2_debt (l : Launch) {z0 n : Nat} {D : va_G} {cy : Nat → ClassId} {ad : Nat → Nat} {x y : Int32} {B : Nat} {S : tS} {g0 : Nat → va_E} (hB : B + 25 ≤ n) (ho : ok S) : Ct0 l yX2_debt cX2_debt 5 (some FieldType.int) 1 22 z0 D cy n ad (gV cy ad B S g0) [.ref (ad B), .int x, .int y] (some (.int (debtS x y S))) (gV cy ad B S g0) := by
  refine ct_of (by decide +kernel) 2 [some (.ref (ad B)), some (.int x), some (.int y), none, none] (Nat.le_of_ble_eq_true rfl) rfl ?_
  intro p e s m below meth c X hr hlk hnm
  generalize hQ : MQ below (QcR z0 D (isR (some (.int (debtS x y S))) n ad (gV cy ad B S g0))) ([.ref (ad B), .int x, .int y] : List Value).toArray s 0 0 (fun q => z0 ≤ q) = Q
  refine v_ico (v := 0) X dX2_debt_0 (by decide) ?_
  refine v_istore3 X rfl (Nat.le_of_ble_eq_true rfl) dX2_debt_1 ?_
  refine v_ico (v := 0) X dX2_debt_2 (by decide) ?_
  refine v_istore4 X rfl (Nat.le_of_ble_eq_true rfl) dX2_debt_3 ?_
  refine loop_up (fun p a => a + debtF (sQ S p) x y) (fun i a => vV p l e (rmv 1 22) s m ([.ref (ad B), .int x, .int y] : List Value).toArray below meth c 5 z0 D 0 0 Q n ad (gV cy ad B S g0) 5 [some (.ref (ad B)), some (.int x), some (.int y), some (.int a), some (.int (nI i))] []) (sP S) ?_ (sP S) 0 0 (Nat.zero_add _) ?_
  · intro i a hi hk
    refine v_iload X dX2_debt_5 rfl ?_
    refine v_aload0 X dX2_debt_7 rfl ?_
    refine gf_X2_33 X dX2_debt_8 (gV_v hB) ?_
    refine v_icmp_ge (tgt := 35) X dX2_debt_11 (by decide) (fun hc => ?_) (fun hc => ?_)
    · exact absurd hc (nIge hi (P31 ho))
    · refine v_iload3 X dX2_debt_14 rfl ?_
      refine v_aload0 X dX2_debt_15 rfl ?_
      refine gf_X2_19 X dX2_debt_16 (gV_v hB) ?_
      refine v_iload X dX2_debt_19 rfl ?_
      refine v_aaldP X dX2_debt_21 (gV_pa hB) rfl (Nat.lt_of_lt_of_le hi ho.2.1) ?_
      refine v_iload1 X dX2_debt_22 rfl ?_
      refine v_iload2 X dX2_debt_23 rfl ?_
      refine cd_X2_139 X dX2_debt_24 (c_X1_debt l (gV_p hB ho.1 ho.2.1 hi)) (gV_p hB ho.1 ho.2.1 hi) rfl (Nat.le_of_ble_eq_true rfl) ⟨(Nat.le_of_ble_eq_true rfl), (Nat.le_of_ble_eq_true rfl), (Nat.le_of_ble_eq_true rfl), (Nat.le_of_ble_eq_true rfl)⟩ ?_
      refine v_iadd X dX2_debt_27 ?_
      refine v_istore3 X rfl (Nat.le_of_ble_eq_true rfl) dX2_debt_28 ?_
      refine v_iinc4 (v := nI (i + 1)) X rfl (Nat.le_of_ble_eq_true rfl) dX2_debt_29 (nI_inc i) ?_
      refine v_goto (tgt := 5) X dX2_debt_32 (by decide) ?_
      exact hk
  · refine v_iload X dX2_debt_5 rfl ?_
    refine v_aload0 X dX2_debt_7 rfl ?_
    refine gf_X2_33 X dX2_debt_8 (gV_v hB) ?_
    refine v_icmp_ge (tgt := 35) X dX2_debt_11 (by decide) (fun hc => ?_) (fun hc => ?_)
    · refine v_iload3 X dX2_debt_35 rfl ?_
      rw [← hQ]
      exact v_iret X hr hlk dX2_debt_36 ⟨rfl, rfl, rfl, rfl⟩
    · exact absurd (Int32.le_refl _) hc
set_option maxRecDepth 100000 in
set_option maxHeartbeats 4000000 in
theorem c_X2_total (l : Launch) {z0 n : Nat} {D : va_G} {cy : Nat → ClassId} {ad : Nat → Nat} {j : Nat} (hj : j < 11) {B : Nat} {S : tS} {g0 : Nat → va_E} (hB : B + 25 ≤ n) (ho : ok S) : Ct0 l yX2_total cX2_total 2 (some FieldType.int) 1 22 z0 D cy n ad (gV cy ad B S g0) [.ref (ad B), .int (nI j)] (some (.int (totalS S j))) (gV cy ad B S g0) := by
  refine ct_of (by decide +kernel) 0 [some (.ref (ad B)), some (.int (nI j))] (Nat.le_of_ble_eq_true rfl) rfl ?_
  intro p e s m below meth c X hr hlk hnm
  refine v_iload1 X dX2_total_0 rfl ?_
  match j, hj with
  | 0, _ =>
    refine v_tabIn (off := 55) (tgt := 56) X dX2_total_1 (by decide) (by decide) (by decide) (by decide) ?_
    refine v_aload0 X dX2_total_56 rfl ?_
    refine gf_X2_36 X dX2_total_57 (gV_v hB) ?_
    exact v_iret X hr hlk dX2_total_60 ⟨rfl, rfl, rfl, rfl⟩
  | 1, _ =>
    refine v_tabIn (off := 60) (tgt := 61) X dX2_total_1 (by decide) (by decide) (by decide) (by decide) ?_
    refine v_aload0 X dX2_total_61 rfl ?_
    refine gf_X2_29 X dX2_total_62 (gV_v hB) ?_
    exact v_iret X hr hlk dX2_total_65 ⟨rfl, rfl, rfl, rfl⟩
  | 2, _ =>
    refine v_tabIn (off := 65) (tgt := 66) X dX2_total_1 (by decide) (by decide) (by decide) (by decide) ?_
    refine v_aload0 X dX2_total_66 rfl ?_
    refine gf_X2_33 X dX2_total_67 (gV_v hB) ?_
    exact v_iret X hr hlk dX2_total_70 ⟨rfl, rfl, rfl, rfl⟩
  | 3, _ =>
    refine v_tabIn (off := 70) (tgt := 71) X dX2_total_1 (by decide) (by decide) (by decide) (by decide) ?_
    refine v_aload0 X dX2_total_71 rfl ?_
    refine cd_X2_142 X dX2_total_72 (c_X2_allWater l hB ho) (gV_v hB) rfl (Nat.le_of_ble_eq_true rfl) ⟨(Nat.le_of_ble_eq_true rfl), (Nat.le_of_ble_eq_true rfl), (Nat.le_of_ble_eq_true rfl), (Nat.le_of_ble_eq_true rfl)⟩ ?_
    exact v_iret X hr hlk dX2_total_75 ⟨rfl, rfl, rfl, rfl⟩
  | 4, _ =>
    refine v_tabIn (off := 75) (tgt := 76) X dX2_total_1 (by decide) (by decide) (by decide) (by decide) ?_
    refine v_aload0 X dX2_total_76 rfl ?_
    refine cd_X2_94 X dX2_total_77 (c_X2_allThirst l hB ho) (gV_v hB) rfl (Nat.le_of_ble_eq_true rfl) ⟨(Nat.le_of_ble_eq_true rfl), (Nat.le_of_ble_eq_true rfl), (Nat.le_of_ble_eq_true rfl), (Nat.le_of_ble_eq_true rfl)⟩ ?_
    exact v_iret X hr hlk dX2_total_80 ⟨rfl, rfl, rfl, rfl⟩
  | 5, _ =>
    refine v_tabIn (off := 80) (tgt := 81) X dX2_total_1 (by decide) (by decide) (by decide) (by decide) ?_
    refine v_aload0 X dX2_total_81 rfl ?_
    refine gf_X2_39 X dX2_total_82 (gV_v hB) ?_
    exact v_iret X hr hlk dX2_total_85 ⟨rfl, rfl, rfl, rfl⟩
  | 6, _ =>
    refine v_tabIn (off := 85) (tgt := 86) X dX2_total_1 (by decide) (by decide) (by decide) (by decide) ?_
    refine v_aload0 X dX2_total_86 rfl ?_
    refine gf_X2_42 X dX2_total_87 (gV_v hB) ?_
    exact v_iret X hr hlk dX2_total_90 ⟨rfl, rfl, rfl, rfl⟩
  | 7, _ =>
    refine v_tabIn (off := 90) (tgt := 91) X dX2_total_1 (by decide) (by decide) (by decide) (by decide) ?_
    refine v_aload0 X dX2_total_91 rfl ?_
    refine gf_X2_45 X dX2_total_92 (gV_v hB) ?_
    exact v_iret X hr hlk dX2_total_95 ⟨rfl, rfl, rfl, rfl⟩
  | 8, _ =>
    refine v_tabIn (off := 95) (tgt := 96) X dX2_total_1 (by decide) (by decide) (by decide) (by decide) ?_
    refine v_aload0 X dX2_total_96 rfl ?_
    refine cd_X2_145 X dX2_total_97 (c_X2_allWatered l hB ho) (gV_v hB) rfl (Nat.le_of_ble_eq_true rfl) ⟨(Nat.le_of_ble_eq_true rfl), (Nat.le_of_ble_eq_true rfl), (Nat.le_of_ble_eq_true rfl), (Nat.le_of_ble_eq_true rfl)⟩ ?_
    exact v_iret X hr hlk dX2_total_100 ⟨rfl, rfl, rfl, rfl⟩
  | 9, _ =>
    refine v_tabIn (off := 100) (tgt := 101) X dX2_total_1 (by decide) (by decide) (by decide) (by decide) ?_
    refine v_aload0 X dX2_total_101 rfl ?_
    refine gf_X2_48 X dX2_total_102 (gV_v hB) ?_
    exact v_iret X hr hlk dX2_total_105 ⟨rfl, rfl, rfl, rfl⟩
  | 10, _ =>
    refine v_tabOut (tgt := 106) X dX2_total_1 (by decide) (by decide) ?_
    refine v_aload0 X dX2_total_106 rfl ?_
    refine cd_X2_148 X dX2_total_107 (c_X2_openValves l hB ho) (gV_v hB) rfl (Nat.le_of_ble_eq_true rfl) ⟨(Nat.le_of_ble_eq_true rfl), (Nat.le_of_ble_eq_true rfl), (Nat.le_of_ble_eq_true rfl), (Nat.le_of_ble_eq_true rfl)⟩ ?_
    exact v_iret X hr hlk dX2_total_110 ⟨rfl, rfl, rfl, rfl⟩
  | j + 11, h => exact absurd h (by omega)
set_option maxRecDepth 100000 in
set_option maxHeartbeats 4000000 in
theorem c_X2_addHouse (l : Launch) {z0 n : Nat} {D : va_G} {cy : Nat → ClassId} {ad : Nat → Nat} {r1 h1 p1 g1 : Int32} {B : Nat} {S : tS} {g0 : Nat → va_E} (hB : B + 25 ≤ n) (ho : ok S) (hN : sN S < 10) (hf : vAt n g0 (B + 3 + sN S) (cH dfH)) : Ct0 l yX2_addHouse cX2_addHouse 6 (some FieldType.int) 0 0 z0 D cy n ad (gV cy ad B S g0) [.ref (ad B), .int r1, .int h1, .int p1, .int g1] (some (.int (nI (sN S)))) (gV cy ad B (buildT r1 h1 p1 g1 S) g0) := by
  refine ct_of (by decide +kernel) 1 [some (.ref (ad B)), some (.int r1), some (.int h1), some (.int p1), some (.int g1), none] (Nat.le_of_ble_eq_true rfl) rfl ?_
  intro p e s m below meth c X hr hlk hnm
  have hc1 : vAt n (gV cy ad B S g0) (B + 3 + sN S) (cH dfH) := gV_o (by unfold gOut; omega) hf
  refine v_aload0 X dX2_addHouse_0 rfl ?_
  refine gf_X2_13 X dX2_addHouse_1 (gV_v hB) ?_
  refine v_aload0 X dX2_addHouse_4 rfl ?_
  refine gf_X2_29 X dX2_addHouse_5 (gV_v hB) ?_
  refine v_aaldH X dX2_addHouse_8 (gV_ha hB) rfl hN ?_
  refine v_astore5 X rfl (Nat.le_of_ble_eq_true rfl) dX2_addHouse_9 ?_
  refine v_aload X dX2_addHouse_11 rfl ?_
  refine v_iload1 X dX2_addHouse_13 rfl ?_
  refine pf_X2_58 X dX2_addHouse_14 hc1 ?_
  refine v_aload X dX2_addHouse_17 rfl ?_
  refine v_iload2 X dX2_addHouse_19 rfl ?_
  refine pf_X2_61 X dX2_addHouse_20 hc1.up ?_
  refine vV.gg (va_up_up _ _ _ _) ?_
  refine v_aload X dX2_addHouse_23 rfl ?_
  refine v_iload3 X dX2_addHouse_25 rfl ?_
  refine pf_X2_64 X dX2_addHouse_26 hc1.up ?_
  refine vV.gg (va_up_up _ _ _ _) ?_
  refine v_aload X dX2_addHouse_29 rfl ?_
  refine v_iload X dX2_addHouse_31 rfl ?_
  refine pf_X2_67 X dX2_addHouse_33 hc1.up ?_
  refine vV.gg (va_up_up _ _ _ _) ?_
  refine v_aload0 X dX2_addHouse_36 rfl ?_
  refine v_dup X dX2_addHouse_37 rfl ?_
  refine gf_X2_29 X dX2_addHouse_38 ((gV_v hB).ne (by omega)) ?_
  refine v_dup_x1 X dX2_addHouse_41 rfl rfl ?_
  refine v_ico (v := 1) X dX2_addHouse_42 (by decide) ?_
  refine v_iadd X dX2_addHouse_43 ?_
  refine vV.top (congrArg Value.int (nI_1 _)) ?_
  refine pf_X2_29 X dX2_addHouse_44 ((gV_v hB).ne (by omega)) ?_
  refine vV.gg (gV_add (f := newH r1 h1 p1 g1) hN) ?_
  exact v_iret X hr hlk dX2_addHouse_47 ⟨rfl, rfl, rfl, rfl⟩
set_option maxRecDepth 100000 in
set_option maxHeartbeats 4000000 in
theorem c_X2_addPipe (l : Launch) {z0 n : Nat} {D : va_G} {cy : Nat → ClassId} {ad : Nat → Nat} {a1 b1 l1 : Int32} {B : Nat} {S : tS} {g0 : Nat → va_E} (hB : B + 25 ≤ n) (ho : ok S) (hP : sP S < 12) (hf : vAt n g0 (B + 13 + sP S) (cP dfQ)) : Ct0 l yX2_addPipe cX2_addPipe 5 (some FieldType.int) 0 0 z0 D cy n ad (gV cy ad B S g0) [.ref (ad B), .int a1, .int b1, .int l1] (some (.int (nI (sP S)))) (gV cy ad B (layT a1 b1 l1 S) g0) := by
  refine ct_of (by decide +kernel) 1 [some (.ref (ad B)), some (.int a1), some (.int b1), some (.int l1), none] (Nat.le_of_ble_eq_true rfl) rfl ?_
  intro p e s m below meth c X hr hlk hnm
  have hN := ho.1
  have hc1 : vAt n (gV cy ad B S g0) (B + 13 + sP S) (cP dfQ) := gV_o (by unfold gOut; omega) hf
  refine v_aload0 X dX2_addPipe_0 rfl ?_
  refine gf_X2_19 X dX2_addPipe_1 (gV_v hB) ?_
  refine v_aload0 X dX2_addPipe_4 rfl ?_
  refine gf_X2_33 X dX2_addPipe_5 (gV_v hB) ?_
  refine v_aaldP X dX2_addPipe_8 (gV_pa hB) rfl hP ?_
  refine v_astore4 X rfl (Nat.le_of_ble_eq_true rfl) dX2_addPipe_9 ?_
  refine v_aload X dX2_addPipe_11 rfl ?_
  refine v_iload1 X dX2_addPipe_13 rfl ?_
  refine pf_X2_70 X dX2_addPipe_14 hc1 ?_
  refine v_aload X dX2_addPipe_17 rfl ?_
  refine v_iload2 X dX2_addPipe_19 rfl ?_
  refine pf_X2_73 X dX2_addPipe_20 hc1.up ?_
  refine vV.gg (va_up_up _ _ _ _) ?_
  refine v_aload X dX2_addPipe_23 rfl ?_
  refine v_iload3 X dX2_addPipe_25 rfl ?_
  refine pf_X2_76 X dX2_addPipe_26 hc1.up ?_
  refine vV.gg (va_up_up _ _ _ _) ?_
  refine v_aload X dX2_addPipe_29 rfl ?_
  refine v_ico (v := 1) X dX2_addPipe_31 (by decide) ?_
  refine pf_X2_79 X dX2_addPipe_32 rfl (by decide) hc1.up ?_
  refine vV.gg (va_up_up _ _ _ _) ?_
  refine v_aload0 X dX2_addPipe_35 rfl ?_
  refine v_dup X dX2_addPipe_36 rfl ?_
  refine gf_X2_33 X dX2_addPipe_37 ((gV_v hB).ne (by omega)) ?_
  refine v_dup_x1 X dX2_addPipe_40 rfl rfl ?_
  refine v_ico (v := 1) X dX2_addPipe_41 (by decide) ?_
  refine v_iadd X dX2_addPipe_42 ?_
  refine vV.top (congrArg Value.int (nI_1 _)) ?_
  refine pf_X2_33 X dX2_addPipe_43 ((gV_v hB).ne (by omega)) ?_
  refine vV.gg (gV_addP (f := newQ a1 b1 l1) ho.1 hP) ?_
  exact v_iret X hr hlk dX2_addPipe_46 ⟨rfl, rfl, rfl, rfl⟩
set_option maxRecDepth 100000 in
set_option maxHeartbeats 4000000 in
theorem c_X2_flowsThrough (l : Launch) {z0 n : Nat} {D : va_G} {cy : Nat → ClassId} {ad : Nat → Nat} {k : Nat} {x y : Int32} {B : Nat} {S : tS} {g0 : Nat → va_E} (hB : B + 25 ≤ n) (ho : ok S) (ht : Ter (sN S) (sH S) k x) : Ct0 l yX2_flowsThrough cX2_flowsThrough 5 (some FieldType.boolean) 1 21 z0 D cy n ad (gV cy ad B S g0) [.ref (ad B), .int x, .int y] (some (.int (bI (thru k (sH S) x y)))) (gV cy ad B S g0) := by
  refine ct_of (by decide +kernel) 2 [some (.ref (ad B)), some (.int x), some (.int y), none, none] (Nat.le_of_ble_eq_true rfl) rfl ?_
  intro p e s m below meth c X hr hlk hnm
  generalize hQ : MQ below (QcR z0 D (isR (some (.int (bI (thru k (sH S) x y)))) n ad (gV cy ad B S g0))) ([.ref (ad B), .int x, .int y] : List Value).toArray s 0 0 (fun q => z0 ≤ q) = Q
  refine v_iload1 X dX2_flowsThrough_0 rfl ?_
  refine v_istore3 X rfl (Nat.le_of_ble_eq_true rfl) dX2_flowsThrough_1 ?_
  refine v_ico (v := 0) X dX2_flowsThrough_2 (by decide) ?_
  refine v_istore4 X rfl (Nat.le_of_ble_eq_true rfl) dX2_flowsThrough_3 ?_
  have hk := ht.le ho.1
  have loop : ∀ (k' : Nat) (x' : Int32) (i : Nat), i + k' ≤ sN S → Ter (sN S) (sH S) k' x' → thru k' (sH S) x' y = thru k (sH S) x y → vV p l e (rmv 1 21) s m ([.ref (ad B), .int x, .int y] : List Value).toArray below meth c 5 z0 D 0 0 Q n ad (gV cy ad B S g0) 5 [some (.ref (ad B)), some (.int x), some (.int y), some (.int x'), some (.int (nI i))] [] := by
    intro k'
    induction k' with
    | zero =>
      intro x' i hi h0 he
      refine v_iload X dX2_flowsThrough_5 rfl ?_
      refine v_aload0 X dX2_flowsThrough_7 rfl ?_
      refine gf_X2_29 X dX2_flowsThrough_8 (gV_v hB) ?_
      refine v_icmp_ge (tgt := 45) X dX2_flowsThrough_11 (by decide) (fun hc => ?_) (fun hc => ?_)
      · refine v_ico (v := 0) X dX2_flowsThrough_45 (by decide) ?_
        rw [← hQ]
        exact v_zret X hr hlk dX2_flowsThrough_46 rfl ⟨by rw [← he]; rfl, rfl, rfl, rfl⟩
      · refine v_aload0 X dX2_flowsThrough_14 rfl ?_
        refine v_iload3 X dX2_flowsThrough_15 rfl ?_
        refine cd_X2_83 X dX2_flowsThrough_16 (c_X2_hasHouse l hB) (gV_v hB) rfl (Nat.le_of_ble_eq_true rfl) ⟨(Nat.le_of_ble_eq_true rfl), (Nat.le_of_ble_eq_true rfl), (Nat.le_of_ble_eq_true rfl), (Nat.le_of_ble_eq_true rfl)⟩ ?_
        refine v_if_eq (tgt := 45) X dX2_flowsThrough_19 (by decide) (fun hd => ?_) (fun hd => ?_)
        · refine v_ico (v := 0) X dX2_flowsThrough_45 (by decide) ?_
          rw [← hQ]
          exact v_zret X hr hlk dX2_flowsThrough_46 rfl ⟨by rw [← he]; rfl, rfl, rfl, rfl⟩
        · exact absurd (by rw [show x' = -1 from h0]; exact hasB_m1 _) hd
    | succ k' ih =>
      intro x' i hi h0 he
      obtain ⟨j, h1, h2, h3⟩ := h0
      refine v_iload X dX2_flowsThrough_5 rfl ?_
      refine v_aload0 X dX2_flowsThrough_7 rfl ?_
      refine gf_X2_29 X dX2_flowsThrough_8 (gV_v hB) ?_
      refine v_icmp_ge (tgt := 45) X dX2_flowsThrough_11 (by decide) (fun hc => ?_) (fun hc => ?_)
      · exact absurd hc (nIge (by omega) (N31 ho))
      · refine v_aload0 X dX2_flowsThrough_14 rfl ?_
        refine v_iload3 X dX2_flowsThrough_15 rfl ?_
        refine cd_X2_83 X dX2_flowsThrough_16 (c_X2_hasHouse l hB) (gV_v hB) rfl (Nat.le_of_ble_eq_true rfl) ⟨(Nat.le_of_ble_eq_true rfl), (Nat.le_of_ble_eq_true rfl), (Nat.le_of_ble_eq_true rfl), (Nat.le_of_ble_eq_true rfl)⟩ ?_
        refine v_if_eq (tgt := 45) X dX2_flowsThrough_19 (by decide) (fun hd => ?_) (fun hd => ?_)
        · exact absurd (hd.symm.trans (show hasB (sN S) x' = 1 by rw [h2]; exact hasB_1 h1 (N31 ho))) (by decide)
        · refine v_iload3 X dX2_flowsThrough_22 rfl ?_
          refine v_iload2 X dX2_flowsThrough_23 rfl ?_
          refine v_icmp_ne (tgt := 29) X dX2_flowsThrough_24 (by decide) (fun hq => ?_) (fun hq => ?_)
          · have he2 : thru k' (sH S) (sH S j 6) y = thru k (sH S) x y := by
              rw [← he, h2, thru_nI (by have := ho.1; omega), if_neg (by rw [← h2]; exact hq)]
            have hI := ih (sH S j 6) (i + 1) (by omega) h3 he2
            refine v_aload0 X dX2_flowsThrough_29 rfl ?_
            refine gf_X2_13 X dX2_flowsThrough_30 (gV_v hB) ?_
            refine v_iload3 X dX2_flowsThrough_33 rfl ?_
            refine v_aaldH X dX2_flowsThrough_34 (gV_ha hB) h2 (Nat.lt_of_lt_of_le h1 ho.1) ?_
            refine gf_X2_87 X dX2_flowsThrough_35 (gV_h hB ho.1 h1) ?_
            refine v_istore3 X rfl (Nat.le_of_ble_eq_true rfl) dX2_flowsThrough_38 ?_
            refine v_iinc4 (v := nI (i + 1)) X rfl (Nat.le_of_ble_eq_true rfl) dX2_flowsThrough_39 (nI_inc i) ?_
            refine v_goto (tgt := 5) X dX2_flowsThrough_42 (by decide) ?_
            exact hI
          · refine v_ico (v := 1) X dX2_flowsThrough_27 (by decide) ?_
            rw [← hQ]
            exact v_zret X hr hlk dX2_flowsThrough_28 rfl ⟨by rw [← he, h2, thru_nI (by have := ho.1; omega), if_pos (by rw [← h2]; exact hq)]; rfl, rfl, rfl, rfl⟩
  exact loop k x 0 (by omega) ht rfl
set_option maxRecDepth 100000 in
set_option maxHeartbeats 4000000 in
theorem c_X2_chainLength (l : Launch) {z0 n : Nat} {D : va_G} {cy : Nat → ClassId} {ad : Nat → Nat} {k : Nat} {x : Int32} {B : Nat} {S : tS} {g0 : Nat → va_E} (hB : B + 25 ≤ n) (ho : ok S) (ht : Ter (sN S) (sH S) k x) : Ct0 l yX2_chainLength cX2_chainLength 4 (some FieldType.int) 1 21 z0 D cy n ad (gV cy ad B S g0) [.ref (ad B), .int x] (some (.int (nI k))) (gV cy ad B S g0) := by
  refine ct_of (by decide +kernel) 2 [some (.ref (ad B)), some (.int x), none, none] (Nat.le_of_ble_eq_true rfl) rfl ?_
  intro p e s m below meth c X hr hlk hnm
  generalize hQ : MQ below (QcR z0 D (isR (some (.int (nI k))) n ad (gV cy ad B S g0))) ([.ref (ad B), .int x] : List Value).toArray s 0 0 (fun q => z0 ≤ q) = Q
  refine v_ico (v := 0) X dX2_chainLength_0 (by decide) ?_
  refine v_istore2 X rfl (Nat.le_of_ble_eq_true rfl) dX2_chainLength_1 ?_
  refine v_iload1 X dX2_chainLength_2 rfl ?_
  refine v_istore3 X rfl (Nat.le_of_ble_eq_true rfl) dX2_chainLength_3 ?_
  have hk := ht.le ho.1
  have loop : ∀ (k' : Nat) (x' : Int32) (i : Nat), i + k' = k → Ter (sN S) (sH S) k' x' → vV p l e (rmv 1 21) s m ([.ref (ad B), .int x] : List Value).toArray below meth c 4 z0 D 0 0 Q n ad (gV cy ad B S g0) 4 [some (.ref (ad B)), some (.int x), some (.int (nI i)), some (.int x')] [] := by
    intro k'
    induction k' with
    | zero =>
      intro x' i hi h0
      have hik : i = k := by omega
      subst hik
      refine v_iload2 X dX2_chainLength_4 rfl ?_
      refine v_aload0 X dX2_chainLength_5 rfl ?_
      refine gf_X2_29 X dX2_chainLength_6 (gV_v hB) ?_
      refine v_icmp_ge (tgt := 36) X dX2_chainLength_9 (by decide) (fun hc => ?_) (fun hc => ?_)
      · refine v_iload2 X dX2_chainLength_36 rfl ?_
        rw [← hQ]
        exact v_iret X hr hlk dX2_chainLength_37 ⟨rfl, rfl, rfl, rfl⟩
      · refine v_aload0 X dX2_chainLength_12 rfl ?_
        refine v_iload3 X dX2_chainLength_13 rfl ?_
        refine cd_X2_83 X dX2_chainLength_14 (c_X2_hasHouse l hB) (gV_v hB) rfl (Nat.le_of_ble_eq_true rfl) ⟨(Nat.le_of_ble_eq_true rfl), (Nat.le_of_ble_eq_true rfl), (Nat.le_of_ble_eq_true rfl), (Nat.le_of_ble_eq_true rfl)⟩ ?_
        refine v_if_eq (tgt := 36) X dX2_chainLength_17 (by decide) (fun hd => ?_) (fun hd => ?_)
        · refine v_iload2 X dX2_chainLength_36 rfl ?_
          rw [← hQ]
          exact v_iret X hr hlk dX2_chainLength_37 ⟨rfl, rfl, rfl, rfl⟩
        · exact absurd (by rw [show x' = -1 from h0]; exact hasB_m1 _) hd
    | succ k' ih =>
      intro x' i hi h0
      obtain ⟨j, h1, h2, h3⟩ := h0
      have hI := ih (sH S j 6) (i + 1) (by omega) h3
      refine v_iload2 X dX2_chainLength_4 rfl ?_
      refine v_aload0 X dX2_chainLength_5 rfl ?_
      refine gf_X2_29 X dX2_chainLength_6 (gV_v hB) ?_
      refine v_icmp_ge (tgt := 36) X dX2_chainLength_9 (by decide) (fun hc => ?_) (fun hc => ?_)
      · exact absurd hc (nIge (by omega) (N31 ho))
      · refine v_aload0 X dX2_chainLength_12 rfl ?_
        refine v_iload3 X dX2_chainLength_13 rfl ?_
        refine cd_X2_83 X dX2_chainLength_14 (c_X2_hasHouse l hB) (gV_v hB) rfl (Nat.le_of_ble_eq_true rfl) ⟨(Nat.le_of_ble_eq_true rfl), (Nat.le_of_ble_eq_true rfl), (Nat.le_of_ble_eq_true rfl), (Nat.le_of_ble_eq_true rfl)⟩ ?_
        refine v_if_eq (tgt := 36) X dX2_chainLength_17 (by decide) (fun hd => ?_) (fun hd => ?_)
        · exact absurd (hd.symm.trans (show hasB (sN S) x' = 1 by rw [h2]; exact hasB_1 h1 (N31 ho))) (by decide)
        · refine v_iinc2 (v := nI (i + 1)) X rfl (Nat.le_of_ble_eq_true rfl) dX2_chainLength_20 (nI_inc i) ?_
          refine v_aload0 X dX2_chainLength_23 rfl ?_
          refine gf_X2_13 X dX2_chainLength_24 (gV_v hB) ?_
          refine v_iload3 X dX2_chainLength_27 rfl ?_
          refine v_aaldH X dX2_chainLength_28 (gV_ha hB) h2 (Nat.lt_of_lt_of_le h1 ho.1) ?_
          refine gf_X2_87 X dX2_chainLength_29 (gV_h hB ho.1 h1) ?_
          refine v_istore3 X rfl (Nat.le_of_ble_eq_true rfl) dX2_chainLength_32 ?_
          refine v_goto (tgt := 4) X dX2_chainLength_33 (by decide) ?_
          exact hI
  exact loop k x 0 (by omega) ht
set_option maxRecDepth 100000 in
set_option maxHeartbeats 4000000 in
theorem c_X2_pour (l : Launch) {z0 n : Nat} {D : va_G} {cy : Nat → ClassId} {ad : Nat → Nat} {k : Nat} {x a : Int32} {B : Nat} {S : tS} {g0 : Nat → va_E} (hB : B + 25 ≤ n) (ho : ok S) (ht : Ter (sN S) (sH S) k x) : Ct0 l yX2_pour cX2_pour 6 (some FieldType.int) 2 62 z0 D cy n ad (gV cy ad B S g0) [.ref (ad B), .int x, .int a] (some (.int (pourA S x a))) (gV cy ad B (pourT S x a) g0) := by
  refine ct_of (by decide +kernel) 3 [some (.ref (ad B)), some (.int x), some (.int a), none, none, none] (Nat.le_of_ble_eq_true rfl) rfl ?_
  intro p e s m below meth c X hr hlk hnm
  generalize hQ : MQ below (QcR z0 D (isR (some (.int (pourA S x a))) n ad (gV cy ad B (pourT S x a) g0))) ([.ref (ad B), .int x, .int a] : List Value).toArray s 0 0 (fun q => z0 ≤ q) = Q
  refine v_iload2 X dX2_pour_0 rfl ?_
  refine v_istore3 X rfl (Nat.le_of_ble_eq_true rfl) dX2_pour_1 ?_
  refine v_iload1 X dX2_pour_2 rfl ?_
  refine v_istore4 X rfl (Nat.le_of_ble_eq_true rfl) dX2_pour_3 ?_
  refine v_ico (v := 0) X dX2_pour_5 (by decide) ?_
  refine v_istore5 X rfl (Nat.le_of_ble_eq_true rfl) dX2_pour_6 ?_
  have hk := ht.le ho.1
  have he := pourS_ter ho.1 (a := a) ht (sN S) hk
  have loop : ∀ (k' : Nat) (hs : Nat → Nat → Int32) (x' a' : Int32) (i : Nat), i + k' ≤ sN S → Ter (sN S) hs k' x' → pourS k' hs x' a' = pourS k (sH S) x a → vV p l e (rmv 2 62) s m ([.ref (ad B), .int x, .int a] : List Value).toArray below meth c 6 z0 D 0 0 Q n ad (gV cy ad B (setH S hs) g0) 8 [some (.ref (ad B)), some (.int x), some (.int a), some (.int a'), some (.int x'), some (.int (nI i))] [] := by
    intro k'
    induction k' with
    | zero =>
      intro hs x' a' i hi h0 hp
      have e1 : hs = (pourS (sN S) (sH S) x a).1 := by rw [he, ← hp]; rfl
      have e2 : a' = pourA S x a := by unfold pourA; rw [he, ← hp]; rfl
      subst e1
      subst e2
      refine v_iload X dX2_pour_8 rfl ?_
      refine v_aload0 X dX2_pour_10 rfl ?_
      refine gf_X2_29 X dX2_pour_11 (gV_v hB) ?_
      refine v_icmp_ge (tgt := 56) X dX2_pour_14 (by decide) (fun hc => ?_) (fun hc => ?_)
      · refine v_aload0 X dX2_pour_56 rfl ?_
        refine v_dup X dX2_pour_57 rfl ?_
        refine gf_X2_42 X dX2_pour_58 (gV_v hB) ?_
        refine v_iload3 X dX2_pour_61 rfl ?_
        refine v_iadd X dX2_pour_62 ?_
        refine pf_X2_42 X dX2_pour_63 (gV_v hB) ?_
        refine vV.gg (gV_upV (T := pourT S x a) rfl rfl rfl rfl) ?_
        refine v_iload3 X dX2_pour_66 rfl ?_
        rw [← hQ]
        exact v_iret X hr hlk dX2_pour_67 ⟨rfl, rfl, rfl, rfl⟩
      · refine v_aload0 X dX2_pour_17 rfl ?_
        refine v_iload X dX2_pour_18 rfl ?_
        refine cd_X2_83 X dX2_pour_20 (c_X2_hasHouse l hB) (gV_v hB) rfl (Nat.le_of_ble_eq_true rfl) ⟨(Nat.le_of_ble_eq_true rfl), (Nat.le_of_ble_eq_true rfl), (Nat.le_of_ble_eq_true rfl), (Nat.le_of_ble_eq_true rfl)⟩ ?_
        refine v_if_eq (tgt := 56) X dX2_pour_23 (by decide) (fun hd => ?_) (fun hd => ?_)
        · refine v_aload0 X dX2_pour_56 rfl ?_
          refine v_dup X dX2_pour_57 rfl ?_
          refine gf_X2_42 X dX2_pour_58 (gV_v hB) ?_
          refine v_iload3 X dX2_pour_61 rfl ?_
          refine v_iadd X dX2_pour_62 ?_
          refine pf_X2_42 X dX2_pour_63 (gV_v hB) ?_
          refine vV.gg (gV_upV (T := pourT S x a) rfl rfl rfl rfl) ?_
          refine v_iload3 X dX2_pour_66 rfl ?_
          rw [← hQ]
          exact v_iret X hr hlk dX2_pour_67 ⟨rfl, rfl, rfl, rfl⟩
        · exact absurd (by rw [show x' = -1 from h0]; exact hasB_m1 _) hd
    | succ k' ih =>
      intro hs x' a' i hi h0 hp
      obtain ⟨j, h1, h2, h3⟩ := h0
      have hI := ih (va_up hs j (takeF (hs j) a')) (hs j 6) (a' - tkF (hs j) a') (i + 1) (by omega) (h3.congr (fun h _ => va_o (take_o _ _ (by decide)) h)) (by rw [← hp, h2, pourS_nI (by have := ho.1; omega)])
      have e6 : va_up hs j (takeF (hs j) a') j 6 = hs j 6 := by rw [va_up_self]; exact take_o _ _ (by decide)
      rw [← e6] at hI
      refine v_iload X dX2_pour_8 rfl ?_
      refine v_aload0 X dX2_pour_10 rfl ?_
      refine gf_X2_29 X dX2_pour_11 (gV_v hB) ?_
      refine v_icmp_ge (tgt := 56) X dX2_pour_14 (by decide) (fun hc => ?_) (fun hc => ?_)
      · exact absurd hc (nIge (N := sN S) (by omega) (N31 ho))
      · refine v_aload0 X dX2_pour_17 rfl ?_
        refine v_iload X dX2_pour_18 rfl ?_
        refine cd_X2_83 X dX2_pour_20 (c_X2_hasHouse l hB) (gV_v hB) rfl (Nat.le_of_ble_eq_true rfl) ⟨(Nat.le_of_ble_eq_true rfl), (Nat.le_of_ble_eq_true rfl), (Nat.le_of_ble_eq_true rfl), (Nat.le_of_ble_eq_true rfl)⟩ ?_
        refine v_if_eq (tgt := 56) X dX2_pour_23 (by decide) (fun hd => ?_) (fun hd => ?_)
        · exact absurd (hd.symm.trans (show hasB (sN S) x' = 1 by rw [h2]; exact hasB_1 h1 (N31 ho))) (by decide)
        · refine v_aload0 X dX2_pour_26 rfl ?_
          refine gf_X2_13 X dX2_pour_27 (gV_v hB) ?_
          refine v_iload X dX2_pour_30 rfl ?_
          refine v_aaldH X dX2_pour_32 (gV_ha hB) h2 (Nat.lt_of_lt_of_le h1 ho.1) ?_
          refine v_iload3 X dX2_pour_33 rfl ?_
          refine cd_X2_90 X dX2_pour_34 (c_X0_takeIn l (gV_h (S := setH S hs) hB ho.1 h1)) (gV_h (S := setH S hs) hB ho.1 h1) rfl (Nat.le_of_ble_eq_true rfl) ⟨(Nat.le_of_ble_eq_true rfl), (Nat.le_of_ble_eq_true rfl), (Nat.le_of_ble_eq_true rfl), (Nat.le_of_ble_eq_true rfl)⟩ ?_
          refine vV.gg (gV_upH (S := setH S hs) ho.1 h1) ?_
          refine v_istore3 X rfl (Nat.le_of_ble_eq_true rfl) dX2_pour_37 ?_
          refine v_aload0 X dX2_pour_38 rfl ?_
          refine gf_X2_13 X dX2_pour_39 (gV_v hB) ?_
          refine v_iload X dX2_pour_42 rfl ?_
          refine v_aaldH X dX2_pour_44 (gV_ha hB) h2 (Nat.lt_of_lt_of_le h1 ho.1) ?_
          refine gf_X2_87 X dX2_pour_45 (gV_h (S := setH S (va_up hs j (takeF (hs j) a'))) hB ho.1 h1) ?_
          refine v_istore4 X rfl (Nat.le_of_ble_eq_true rfl) dX2_pour_48 ?_
          refine v_iinc5 (v := nI (i + 1)) X rfl (Nat.le_of_ble_eq_true rfl) dX2_pour_50 (nI_inc i) ?_
          refine v_goto (tgt := 8) X dX2_pour_53 (by decide) ?_
          exact hI
  exact loop k (sH S) x a 0 (by omega) ht rfl
