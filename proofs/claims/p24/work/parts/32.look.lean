/-! looking ahead -/
theorem VB.v {cy : Nat → ClassId} {ad : Nat → Nat} {n B : Nat} {T : tS} {g : Nat → va_E} (h : VB cy ad n g B) (ho : ok T) : VB cy ad n (gV cy ad B T g) B := by
  obtain ⟨hB, _, _, _, h4, h5⟩ := h
  refine ⟨hB, ⟨T, (gV_v hB).2⟩, (gV_ha hB).2, (gV_pa hB).2, fun i hi => ?_, fun i hi => ?_⟩
  · by_cases c : i < sN T
    · exact ⟨_, (gV_h hB ho.1 c).2⟩
    · obtain ⟨f, hf⟩ := h4 i hi
      exact ⟨f, (gV_out (by unfold gOut; omega)).trans hf⟩
  · by_cases c : i < sP T
    · exact ⟨_, (gV_p hB ho.1 ho.2.1 c).2⟩
    · obtain ⟨f, hf⟩ := h5 i hi
      have := ho.1
      exact ⟨f, (gV_out (by unfold gOut; omega)).trans hf⟩
/-- the trial may be another; all else stays -/
def TR (cy : Nat → ClassId) (ad : Nat → Nat) (n : Nat) (g0 g1 : Nat → va_E) : Prop := VB cy ad n g1 29 ∧ ∀ k, k < 29 ∨ 54 ≤ k → g1 k = g0 k
theorem TR.rf {cy : Nat → ClassId} {ad : Nat → Nat} {n : Nat} {g0 : Nat → va_E} (h : VB cy ad n g0 29) : TR cy ad n g0 g0 := ⟨h, fun _ _ => rfl⟩
theorem TR.v {cy : Nat → ClassId} {ad : Nat → Nat} {n : Nat} {g0 g1 : Nat → va_E} {T : tS} (h : TR cy ad n g0 g1) (ho : ok T) : TR cy ad n g0 (gV cy ad 29 T g1) := ⟨h.1.v ho, fun k hk => (gV_out (by have h1 := ho.1; have h2 := ho.2.1; unfold gOut; omega)).trans (h.2 k hk)⟩
theorem TR.o {cy : Nat → ClassId} {ad : Nat → Nat} {n k : Nat} {g0 g1 : Nat → va_E} {e : va_E} (h : TR cy ad n g0 g1) (hk : k < 29 ∨ 54 ≤ k) (hg : vAt n g0 k e) : vAt n g1 k e := ⟨hg.1, (h.2 k hk).trans hg.2⟩
theorem TR.R {cy : Nat → ClassId} {ad : Nat → Nat} {n : Nat} {g0 g1 : Nat → va_E} (h : TR cy ad n g0 g1) (hR : RO ad n g0) : RO ad n g1 := ⟨hR.1, h.o (by omega) hR.2⟩
theorem TR.W {cy : Nat → ClassId} {ad : Nat → Nat} {n : Nat} {g0 g1 : Nat → va_E} {ra le : Nat → Int32} (h : TR cy ad n g0 g1) (hw : WX cy ad n g0 ra le) : WX cy ad n g1 ra le := ⟨h.o (by omega) hw.1, h.o (by omega) hw.2.1, h.o (by omega) hw.2.2⟩
/-- the answer, the village as it was, some trial -/
abbrev tP (v : Int32) (cy : Nat → ClassId) (ad : Nat → Nat) (n : Nat) (S : tS) (g0 : Nat → va_E) : CtP := fun r n' ad' g' => r = some (.int v) ∧ n' = n ∧ ad' = ad ∧ ∃ g1, TR cy ad n g0 g1 ∧ g' = gV cy ad 4 S g1
theorem gV_29 {cy : Nat → ClassId} {ad : Nat → Nat} {S T : tS} {g : Nat → va_E} (ho : ok S) (hT : ok T) : gV cy ad 29 T (gV cy ad 4 S g) = gV cy ad 4 S (gV cy ad 29 T g) := (gV_comm (by omega) ho.1 ho.2.1 hT.1 hT.2.1).symm
/-- things in the class's world when the trial is T -/
theorem RO.v9 {cy : Nat → ClassId} {ad : Nat → Nat} {n : Nat} {S T : tS} {g : Nat → va_E} (h : RO ad n g) : RO ad n (gV cy ad 29 T (gV cy ad 4 S g)) := ⟨h.1, gV_o (by unfold gOut; omega) h.v.2⟩
theorem VB.v4 {cy : Nat → ClassId} {ad : Nat → Nat} {n : Nat} {S : tS} {g : Nat → va_E} (h : VB cy ad n g 29) (ho : ok S) : VB cy ad n (gV cy ad 4 S g) 29 := by
  obtain ⟨hB, ⟨T, h1⟩, h2, h3, h4, h5⟩ := h
  have a1 := ho.1
  have a2 := ho.2.1
  exact ⟨hB, ⟨T, (gV_out (by unfold gOut; omega)).trans h1⟩, (gV_out (by unfold gOut; omega)).trans h2, (gV_out (by unfold gOut; omega)).trans h3, fun i hi => by obtain ⟨f, hf⟩ := h4 i hi; exact ⟨f, (gV_out (by unfold gOut; omega)).trans hf⟩, fun i hi => by obtain ⟨f, hf⟩ := h5 i hi; exact ⟨f, (gV_out (by unfold gOut; omega)).trans hf⟩⟩
theorem c_tcopy (l : Launch) {z0 n : Nat} {D : va_G} {cy : Nat → ClassId} {ad : Nat → Nat} {S : tS} {g : Nat → va_E} (hv : VB cy ad n g 29) (ho : ok S) : Ct0 l yX2_copy cX2_copy 3 none 1 21 z0 D cy n ad (gV cy ad 4 S g) [.ref (ad 29), .ref (ad 4)] none (gV cy ad 29 S (gV cy ad 4 S g)) := c_X2_copy l (by have := hv.1; omega) (Or.inr (by omega)) ho hv
def foreA (ra le : Nat → Int32) (k : Nat) (S : tS) : Nat → Int32
  | 0 => sumS 7 (daysS ra le k S) - sumS 7 S
  | 1 => sumS 2 (daysS ra le k S)
  | _ => sM (daysS ra le k S) 2 - sM S 2
set_option maxRecDepth 100000 in
set_option maxHeartbeats 4000000 in
theorem c_foresee (l : Launch) {z0 n : Nat} {D : va_G} {cy : Nat → ClassId} {ad : Nat → Nat} {S : tS} {g0 : Nat → va_E} {ra le : Nat → Int32} {d k j : Nat} (hR : RO ad n g0) (hv : VB cy ad n g0 29) (ho : ok S) (hw : WX cy ad n g0 ra le) (hwk : wok ra le) (hd : sM S 0 = nI d) (hd2 : d + k < 2 ^ 31) (h1 : IN (nI k) 1 100) (hj : j < 3) (h2 : IN (nI j) 0 2) : CtG l yX4_foresee cX4_foresee 4 (some FieldType.int) (rmv 7 155) z0 D cy n ad (gV cy ad 4 S g0) [.ref (ad 0), .int (nI k), .int (nI j)] (tP (foreA ra le k S j) cy ad n S g0) 0 0 := by
  refine ct_of (by decide +kernel) 1 [some (.ref (ad 0)), some (.int (nI k)), some (.int (nI j)), none] (Nat.le_of_ble_eq_true rfl) rfl ?_
  intro p e s m below meth c X hr hlk hnm
  have hT := (daysS_ok hwk ho hd k).1
  have hTR : TR cy ad n g0 (gV cy ad 29 (daysS ra le k S) g0) := (TR.rf hv).v hT
  obtain ⟨T0, hT0⟩ := (hv.v4 ho).2.1
  have ht : vAt n (gV cy ad 4 S g0) 29 (cV ad 29 T0) := ⟨by have := hv.1; omega, hT0⟩
  refine v_iload1 X dX4_foresee_0 rfl ?_
  refine v_ico (v := 1) X dX4_foresee_1 (by decide) ?_
  refine v_bip (v := 100) X dX4_foresee_2 (by decide) ?_
  refine cd_X4_28 X dX4_foresee_4 (c_isWithin l) (Nat.le_of_ble_eq_true rfl) ⟨(Nat.le_of_ble_eq_true rfl), (Nat.le_of_ble_eq_true rfl), (Nat.le_of_ble_eq_true rfl), (Nat.le_of_ble_eq_true rfl)⟩ ?_
  refine cd_X4_36 X dX4_foresee_7 (c_needArgument l (inB_ne h1)) (Nat.le_of_ble_eq_true rfl) ⟨(Nat.le_of_ble_eq_true rfl), (Nat.le_of_ble_eq_true rfl), (Nat.le_of_ble_eq_true rfl), (Nat.le_of_ble_eq_true rfl)⟩ ?_
  refine v_iload2 X dX4_foresee_10 rfl ?_
  refine v_ico (v := 0) X dX4_foresee_11 (by decide) ?_
  refine v_ico (v := 2) X dX4_foresee_12 (by decide) ?_
  refine cd_X4_28 X dX4_foresee_13 (c_isWithin l) (Nat.le_of_ble_eq_true rfl) ⟨(Nat.le_of_ble_eq_true rfl), (Nat.le_of_ble_eq_true rfl), (Nat.le_of_ble_eq_true rfl), (Nat.le_of_ble_eq_true rfl)⟩ ?_
  refine cd_X4_32 X dX4_foresee_16 (c_needIndex l (inB_ne h2)) (Nat.le_of_ble_eq_true rfl) ⟨(Nat.le_of_ble_eq_true rfl), (Nat.le_of_ble_eq_true rfl), (Nat.le_of_ble_eq_true rfl), (Nat.le_of_ble_eq_true rfl)⟩ ?_
  refine v_aload0 X dX4_foresee_19 rfl ?_
  refine gf_X4_25 X dX4_foresee_20 hR.v.2 ?_
  refine v_aload0 X dX4_foresee_23 rfl ?_
  refine gf_X4_21 X dX4_foresee_24 hR.v.2 ?_
  refine cd_X4_128 X dX4_foresee_27 (c_tcopy l hv ho) ht rfl (Nat.le_of_ble_eq_true rfl) ⟨(Nat.le_of_ble_eq_true rfl), (Nat.le_of_ble_eq_true rfl), (Nat.le_of_ble_eq_true rfl), (Nat.le_of_ble_eq_true rfl)⟩ ?_
  refine v_aload0 X dX4_foresee_30 rfl ?_
  refine gf_X4_25 X dX4_foresee_31 hR.v9.2 ?_
  refine v_iload1 X dX4_foresee_34 rfl ?_
  refine cd_X4_122 X dX4_foresee_35 (c_X2_live l hv.1 ho (by omega) (gV_W (by omega) hw) hwk hd hd2) (gV_v hv.1) rfl (Nat.le_of_ble_eq_true rfl) ⟨(Nat.le_of_ble_eq_true rfl), (Nat.le_of_ble_eq_true rfl), (Nat.le_of_ble_eq_true rfl), (Nat.le_of_ble_eq_true rfl)⟩ ?_
  refine v_istore3 X rfl (Nat.le_of_ble_eq_true rfl) dX4_foresee_38 ?_
  refine v_iload2 X dX4_foresee_39 rfl ?_
  match j, hj with
  | 0, _ =>
    refine v_look (off := 28) (tgt := 68) X dX4_foresee_40 (by decide) (by decide) (by decide) ?_
    refine v_iload3 X dX4_foresee_68 rfl ?_
    exact v_iret X hr hlk dX4_foresee_69 ⟨rfl, rfl, rfl, _, hTR, gV_29 ho hT⟩
  | 1, _ =>
    refine v_look (off := 30) (tgt := 70) X dX4_foresee_40 (by decide) (by decide) (by decide) ?_
    refine v_aload0 X dX4_foresee_70 rfl ?_
    refine gf_X4_25 X dX4_foresee_71 hR.v9.2 ?_
    refine cd_X4_132 X dX4_foresee_74 (c_X2_allWater l hv.1 hT) (gV_v hv.1) rfl (Nat.le_of_ble_eq_true rfl) ⟨(Nat.le_of_ble_eq_true rfl), (Nat.le_of_ble_eq_true rfl), (Nat.le_of_ble_eq_true rfl), (Nat.le_of_ble_eq_true rfl)⟩ ?_
    exact v_iret X hr hlk dX4_foresee_77 ⟨rfl, rfl, rfl, _, hTR, gV_29 ho hT⟩
  | 2, _ =>
    refine v_look (off := 38) (tgt := 78) X dX4_foresee_40 (by decide) (by decide) (by decide) ?_
    refine v_aload0 X dX4_foresee_78 rfl ?_
    refine gf_X4_25 X dX4_foresee_79 hR.v9.2 ?_
    refine gf_X4_136 X dX4_foresee_82 (gV_v hv.1) ?_
    refine v_aload0 X dX4_foresee_85 rfl ?_
    refine gf_X4_21 X dX4_foresee_86 hR.v9.2 ?_
    refine gf_X4_136 X dX4_foresee_89 (gV_o (by unfold gOut; omega) (gV_v hR.1)) ?_
    refine v_isub X dX4_foresee_92 ?_
    exact v_iret X hr hlk dX4_foresee_93 ⟨rfl, rfl, rfl, _, hTR, gV_29 ho hT⟩
  | j + 3, h => exact absurd h (by omega)
theorem dtt_ok {ra le : Nat → Int32} (hw : wok ra le) {j : Nat} {b : Int32} : ∀ (k i : Nat) {S : tS}, ok S → ok (dtt ra le j b k i S).2
  | 0, i, S, h => h
  | k + 1, i, S, h => by
    have h1 := (dayS_ok hw h).1
    unfold dtt
    split
    · exact dtt_ok hw k (i + 1) h1
    · exact h1
set_option maxRecDepth 100000 in
set_option maxHeartbeats 4000000 in
theorem c_lasts (l : Launch) {z0 n : Nat} {D : va_G} {cy : Nat → ClassId} {ad : Nat → Nat} {S : tS} {g0 : Nat → va_E} {ra le : Nat → Int32} {d h : Nat} (hR : RO ad n g0) (hv : VB cy ad n g0 29) (ho : ok S) (hh : h < sN S) (hw : WX cy ad n g0 ra le) (hwk : wok ra le) (hd : sM S 0 = nI d) (hd2 : d + 200 < 2 ^ 30) : CtG l yX4_lasts cX4_lasts 2 (some FieldType.int) (rmv 7 157) z0 D cy n ad (gV cy ad 4 S g0) [.ref (ad 0), .int (nI h)] (tP (dtt ra le h (sH S h 9) 200 1 S).1 cy ad n S g0) 0 0 := by
  refine ct_of (by decide +kernel) 0 [some (.ref (ad 0)), some (.int (nI h))] (Nat.le_of_ble_eq_true rfl) rfl ?_
  intro p e s m below meth c X hr hlk hnm
  have hT := dtt_ok hwk (j := h) (b := sH S h 9) 200 1 ho
  have hTR : TR cy ad n g0 (gV cy ad 29 (dtt ra le h (sH S h 9) 200 1 S).2 g0) := (TR.rf hv).v hT
  obtain ⟨T0, hT0⟩ := (hv.v4 ho).2.1
  have ht : vAt n (gV cy ad 4 S g0) 29 (cV ad 29 T0) := ⟨by have := hv.1; omega, hT0⟩
  refine v_aload0 X dX4_lasts_0 rfl ?_
  refine v_iload1 X dX4_lasts_1 rfl ?_
  refine cd_X4_58 X dX4_lasts_2 (c_needHouse l hR.v (hasB_1 hh (by have := ho.1; omega))) hR.v.2 rfl (Nat.le_of_ble_eq_true rfl) ⟨(Nat.le_of_ble_eq_true rfl), (Nat.le_of_ble_eq_true rfl), (Nat.le_of_ble_eq_true rfl), (Nat.le_of_ble_eq_true rfl)⟩ ?_
  refine v_aload0 X dX4_lasts_5 rfl ?_
  refine gf_X4_25 X dX4_lasts_6 hR.v.2 ?_
  refine v_aload0 X dX4_lasts_9 rfl ?_
  refine gf_X4_21 X dX4_lasts_10 hR.v.2 ?_
  refine cd_X4_128 X dX4_lasts_13 (c_tcopy l hv ho) ht rfl (Nat.le_of_ble_eq_true rfl) ⟨(Nat.le_of_ble_eq_true rfl), (Nat.le_of_ble_eq_true rfl), (Nat.le_of_ble_eq_true rfl), (Nat.le_of_ble_eq_true rfl)⟩ ?_
  refine v_aload0 X dX4_lasts_16 rfl ?_
  refine gf_X4_25 X dX4_lasts_17 hR.v9.2 ?_
  refine v_iload1 X dX4_lasts_20 rfl ?_
  refine v_sip (v := 200) X dX4_lasts_21 (by decide) ?_
  refine cd_X4_139 X dX4_lasts_24 (c_X2_daysToThirst l (k := 200) hv.1 ho hh (by omega) (gV_W (by omega) hw) hwk hd hd2) (gV_v hv.1) rfl (Nat.le_of_ble_eq_true rfl) ⟨(Nat.le_of_ble_eq_true rfl), (Nat.le_of_ble_eq_true rfl), (Nat.le_of_ble_eq_true rfl), (Nat.le_of_ble_eq_true rfl)⟩ ?_
  exact v_iret X hr hlk dX4_lasts_27 ⟨rfl, rfl, rfl, _, hTR, gV_29 ho hT⟩
