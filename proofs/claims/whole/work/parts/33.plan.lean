/-! needs, dirty, advise -/
theorem IN.i {x a b : Int32} (h : IN x a b) : a.toInt ≤ x.toInt ∧ x.toInt ≤ b.toInt := ⟨Int32.le_iff_toInt_le.mp h.1, Int32.le_iff_toInt_le.mp h.2⟩
def sizeT (h : Nat) (v : Int32) (S : tS) : tS := setH S (va_up (sH S) h (sizeF (sH S h) v))
theorem sizeT_ok {S : tS} {h i : Nat} (ho : ok S) (hh : h < sN S) (h1 : 1 ≤ i) (h2 : i ≤ 90) : ok (sizeT h (nI (10 * i)) S) := by
  refine ok_h1 ho rfl rfl rfl rfl (by unfold sizeF; rw [upd_n _ _ (by omega), upd_n _ _ (by omega)]) (fun _ => ?_)
  obtain ⟨a, b, c, d, e, f⟩ := ho.2.2.1 h hh
  have hv : (nI (10 * i)).toInt = ((10 * i : Nat) : Int) := nI_toInt (by omega)
  have hm := jminI (sH S h 2) (nI (10 * i))
  unfold rgH sizeF
  rw [upd_n _ _ (by omega), upd_n _ _ (by omega), upd_n _ _ (by omega), upd_s, upd_s, upd_n _ _ (by omega), upd_n _ _ (by omega), upd_n _ _ (by omega), upd_n _ _ (by omega), upd_n _ _ (by omega), upd_n _ _ (by omega)]
  refine ⟨a, ⟨by omega, by omega⟩, ⟨by omega, by omega⟩, d, e, f⟩
theorem clT_ok {S : tS} {h : Nat} (ho : ok S) (hh : h < sN S) : ok (clT h S) := by
  refine ok_h1 ho rfl rfl rfl rfl (upd_n _ _ (by omega)) (fun _ => ?_)
  obtain ⟨a, b, c, d, e, f⟩ := ho.2.2.1 h hh
  unfold rgH
  rw [upd_n _ _ (by omega), upd_n _ _ (by omega), upd_n _ _ (by omega), upd_n _ _ (by omega), upd_n _ _ (by omega), upd_s]
  exact ⟨a, b, c, d, e, by decide⟩
theorem tuT_ok {S : tS} {j : Nat} {b : Int32} (ho : ok S) (hb : isB b) : ok (tuT j b S) := by
  obtain ⟨h1, h2, h3, h4, h5⟩ := ho
  refine ⟨h1, h2, h3, fun p hp => ?_, h5⟩
  show okQ (sN S) (va_up (sQ S) j _ p)
  by_cases e : p = j
  · subst e
    rw [va_up_self]
    obtain ⟨x, y, z1, z2, z3, z4, z5, z6, z7, z8⟩ := h4 p hp
    exact ⟨x, y, z1, z2, z3, by rw [upd_n _ _ (by omega)]; exact z4, by rw [upd_n _ _ (by omega)]; exact z5, by rw [upd_n _ _ (by omega)]; exact z6, by rw [upd_n _ _ (by omega)]; exact z7, by rw [upd_s]; exact hb⟩
  · rw [va_up_ne _ _ e]; exact h4 p hp
def needR (ra le : Nat → Int32) (d h : Nat) (S : tS) : Nat → Nat → Int32
  | 0, _ => -1
  | m + 1, i => if (dtt ra le h (sH (sizeT h (nI (10 * i)) S) h 9) d 1 (sizeT h (nI (10 * i)) S)).1 = -1 then nI (10 * i) else needR ra le d h S m (i + 1)
theorem needR_s (ra le : Nat → Int32) (d h : Nat) (S : tS) (m i : Nat) : needR ra le d h S (m + 1) i = if (dtt ra le h (sH (sizeT h (nI (10 * i)) S) h 9) d 1 (sizeT h (nI (10 * i)) S)).1 = -1 then nI (10 * i) else needR ra le d h S m (i + 1) := rfl
set_option maxRecDepth 100000 in
set_option maxHeartbeats 4000000 in
theorem c_needs (l : Launch) {z0 n : Nat} {D : va_G} {cy : Nat → ClassId} {ad : Nat → Nat} {S : tS} {g0 : Nat → va_E} {ra le : Nat → Int32} {d h k : Nat} (hR : RO ad n g0) (hv : VB cy ad n g0 29) (ho : ok S) (hh : h < sN S) (hw : WX cy ad n g0 ra le) (hwk : wok ra le) (hd : sM S 0 = nI d) (hd2 : d + k < 2 ^ 30) (h1 : IN (nI k) 1 60) : CtG l yX4_needs cX4_needs 4 (some FieldType.int) (rmv 7 157) z0 D cy n ad (gV cy ad 4 S g0) [.ref (ad 0), .int (nI h), .int (nI k)] (tP (needR ra le k h S 90 1) cy ad n S g0) 0 0 := by
  refine ct_of (by decide +kernel) 1 [some (.ref (ad 0)), some (.int (nI h)), some (.int (nI k)), none] (Nat.le_of_ble_eq_true rfl) rfl ?_
  intro p e s m below meth c X hr hlk hnm
  generalize hQ : MQ below (QcR z0 D (tP (needR ra le k h S 90 1) cy ad n S g0)) ([.ref (ad 0), .int (nI h), .int (nI k)] : List Value).toArray s 0 0 (fun q => z0 ≤ q) = Q
  have hL : ∀ q i, q + i = 91 → 1 ≤ i → needR ra le k h S q i = needR ra le k h S 90 1 → ∀ g1, TR cy ad n g0 g1 → vV p l e (rmv 7 157) s m ([.ref (ad 0), .int (nI h), .int (nI k)] : List Value).toArray below meth c 4 z0 D 0 0 Q n ad (gV cy ad 4 S g1) 18 [some (.ref (ad 0)), some (.int (nI h)), some (.int (nI k)), some (.int (nI (10 * i)))] [] := by
    intro m'
    induction m' with
    | zero =>
      intro i hi hi1 he g1 hT
      have : i = 91 := by omega
      subst this
      refine v_iload3 X dX4_needs_18 rfl ?_
      refine v_sip (v := 900) X dX4_needs_19 (by decide) ?_
      refine v_icmp_gt (tgt := 70) X dX4_needs_22 (by decide) (fun hc => ?_) (fun hc => ?_)
      · refine v_ico (v := -1) X dX4_needs_70 (by decide) ?_
        rw [← hQ]
        exact v_iret X hr hlk dX4_needs_71 ⟨congrArg (fun q => some (Value.int q)) he, rfl, rfl, g1, hT, rfl⟩
      exact absurd (show (900 : Int32) < nI 910 by decide) hc
    | succ m' ih =>
      intro i hi hi1 he g1 hT
      have hso := sizeT_ok (i := i) ho hh hi1 (by omega)
      obtain ⟨T0, hT0⟩ := (hT.1.v4 ho).2.1
      have ht : vAt n (gV cy ad 4 S g1) 29 (cV ad 29 T0) := ⟨by have := hv.1; omega, hT0⟩
      rw [needR_s] at he
      refine v_iload3 X dX4_needs_18 rfl ?_
      refine v_sip (v := 900) X dX4_needs_19 (by decide) ?_
      refine v_icmp_gt (tgt := 70) X dX4_needs_22 (by decide) (fun hc => ?_) (fun hc => ?_)
      · exact absurd (show nI 900 < nI (10 * i) from hc) (nI_nlt (by omega) (by decide))
      refine v_aload0 X dX4_needs_25 rfl ?_
      refine gf_X4_25 X dX4_needs_26 (hT.R hR).v.2 ?_
      refine v_aload0 X dX4_needs_29 rfl ?_
      refine gf_X4_21 X dX4_needs_30 (hT.R hR).v.2 ?_
      refine cd_X4_128 X dX4_needs_33 (c_tcopy l hT.1 ho) ht rfl (Nat.le_of_ble_eq_true rfl) ⟨(Nat.le_of_ble_eq_true rfl), (Nat.le_of_ble_eq_true rfl), (Nat.le_of_ble_eq_true rfl), (Nat.le_of_ble_eq_true rfl)⟩ ?_
      refine v_aload0 X dX4_needs_36 rfl ?_
      refine gf_X4_25 X dX4_needs_37 (hT.R hR).v9.2 ?_
      refine gf_X4_70 X dX4_needs_40 (gV_v hv.1) ?_
      refine v_iload1 X dX4_needs_43 rfl ?_
      refine v_aaldH X dX4_needs_44 (gV_ha hv.1) rfl (le10 ho hh) ?_
      refine v_iload3 X dX4_needs_45 rfl ?_
      refine cd_X4_142 X dX4_needs_46 (c_X0_resize l (gV_h hv.1 ho.1 hh)) (gV_h hv.1 ho.1 hh) rfl (Nat.le_of_ble_eq_true rfl) ⟨(Nat.le_of_ble_eq_true rfl), (Nat.le_of_ble_eq_true rfl), (Nat.le_of_ble_eq_true rfl), (Nat.le_of_ble_eq_true rfl)⟩ ?_
      refine vV.gg (show _ = gV cy ad 29 (sizeT h (nI (10 * i)) S) _ from gV_upH (B := 29) (f := sizeF (sH S h) (nI (10 * i))) ho.1 hh) ?_
      refine v_aload0 X dX4_needs_49 rfl ?_
      refine gf_X4_25 X dX4_needs_50 (hT.R hR).v9.2 ?_
      refine v_iload1 X dX4_needs_53 rfl ?_
      refine v_iload2 X dX4_needs_54 rfl ?_
      refine cd_X4_139 X dX4_needs_55 (c_X2_daysToThirst l hv.1 hso hh (by omega) (gV_W (by omega) (hT.W hw)) hwk hd hd2) (gV_v hv.1) rfl (Nat.le_of_ble_eq_true rfl) ⟨(Nat.le_of_ble_eq_true rfl), (Nat.le_of_ble_eq_true rfl), (Nat.le_of_ble_eq_true rfl), (Nat.le_of_ble_eq_true rfl)⟩ ?_
      refine v_ico (v := -1) X dX4_needs_58 (by decide) ?_
      have hD := dtt_ok hwk (j := h) (b := sH (sizeT h (nI (10 * i)) S) h 9) k 1 hso
      refine v_icmp_ne (tgt := 64) X dX4_needs_59 (by decide) (fun hc => ?_) (fun hc => ?_)
      · refine v_iinc3 (v := nI (10 * (i + 1))) X rfl (Nat.le_of_ble_eq_true rfl) dX4_needs_64 (nI_add (10 * i) 10) ?_
        refine v_goto (tgt := 18) X dX4_needs_67 (by decide) ?_
        refine vV.gg (gV_29 ho hD) ?_
        rw [if_neg hc] at he
        exact ih (i + 1) (by omega) (by omega) he _ (hT.v hD)
      refine v_iload3 X dX4_needs_62 rfl ?_
      rw [if_pos hc] at he
      rw [← hQ]
      exact v_iret X hr hlk dX4_needs_63 ⟨congrArg (fun q => some (Value.int q)) he, rfl, rfl, _, hT.v hD, gV_29 ho hD⟩
  refine v_aload0 X dX4_needs_0 rfl ?_
  refine v_iload1 X dX4_needs_1 rfl ?_
  refine cd_X4_58 X dX4_needs_2 (c_needHouse l hR.v (hasB_1 hh (by have := ho.1; omega))) hR.v.2 rfl (Nat.le_of_ble_eq_true rfl) ⟨(Nat.le_of_ble_eq_true rfl), (Nat.le_of_ble_eq_true rfl), (Nat.le_of_ble_eq_true rfl), (Nat.le_of_ble_eq_true rfl)⟩ ?_
  refine v_iload2 X dX4_needs_5 rfl ?_
  refine v_ico (v := 1) X dX4_needs_6 (by decide) ?_
  refine v_bip (v := 60) X dX4_needs_7 (by decide) ?_
  refine cd_X4_28 X dX4_needs_9 (c_isWithin l) (Nat.le_of_ble_eq_true rfl) ⟨(Nat.le_of_ble_eq_true rfl), (Nat.le_of_ble_eq_true rfl), (Nat.le_of_ble_eq_true rfl), (Nat.le_of_ble_eq_true rfl)⟩ ?_
  refine cd_X4_36 X dX4_needs_12 (c_needArgument l (inB_ne h1)) (Nat.le_of_ble_eq_true rfl) ⟨(Nat.le_of_ble_eq_true rfl), (Nat.le_of_ble_eq_true rfl), (Nat.le_of_ble_eq_true rfl), (Nat.le_of_ble_eq_true rfl)⟩ ?_
  refine v_bip (v := 10) X dX4_needs_15 (by decide) ?_
  refine v_istore3 X rfl (Nat.le_of_ble_eq_true rfl) dX4_needs_17 ?_
  exact hL 90 1 rfl (by omega) rfl g0 (TR.rf hv)
set_option maxRecDepth 100000 in
set_option maxHeartbeats 4000000 in
theorem x1_needs (l : Launch) (hst : l.stackTraces = false) {z0 n : Nat} {D : va_G} {cy : Nat → ClassId} {ad : Nat → Nat} {S : tS} {g0 : Nat → va_E} {x y : Int32} (hR : RO ad n g0) (h1 : hasB (sN S) x = 0) : CtX l yX4_needs cX4_needs 4 (some FieldType.int) 7 157 z0 D cy n ad (gV cy ad 4 S g0) [.ref (ad 0), .int x, .int y] eI := by
  refine ctx_of (by decide +kernel) 1 [some (.ref (ad 0)), some (.int x), some (.int y), none] (Nat.le_of_ble_eq_true rfl) rfl ?_
  intro p e s m below meth c X ht hlk
  refine v_aload0 X dX4_needs_0 rfl ?_
  refine v_iload1 X dX4_needs_1 rfl ?_
  exact cx_X4_58 X ht hlk dX4_needs_2 (x_needHouse l hst hR.v h1) hR.v.2 rfl (Nat.le_of_ble_eq_true rfl) ⟨(Nat.le_of_ble_eq_true rfl), (Nat.le_of_ble_eq_true rfl), (Nat.le_of_ble_eq_true rfl), (Nat.le_of_ble_eq_true rfl)⟩
set_option maxRecDepth 100000 in
set_option maxHeartbeats 4000000 in
theorem x2_needs (l : Launch) (hst : l.stackTraces = false) {z0 n : Nat} {D : va_G} {cy : Nat → ClassId} {ad : Nat → Nat} {S : tS} {g0 : Nat → va_E} {x y : Int32} (hR : RO ad n g0) (h1 : hasB (sN S) x = 1) (h2 : ¬ IN y 1 60) : CtX l yX4_needs cX4_needs 4 (some FieldType.int) 7 157 z0 D cy n ad (gV cy ad 4 S g0) [.ref (ad 0), .int x, .int y] eA := by
  refine ctx_of (by decide +kernel) 1 [some (.ref (ad 0)), some (.int x), some (.int y), none] (Nat.le_of_ble_eq_true rfl) rfl ?_
  intro p e s m below meth c X ht hlk
  refine v_aload0 X dX4_needs_0 rfl ?_
  refine v_iload1 X dX4_needs_1 rfl ?_
  refine cd_X4_58 X dX4_needs_2 (c_needHouse l hR.v h1) hR.v.2 rfl (Nat.le_of_ble_eq_true rfl) ⟨(Nat.le_of_ble_eq_true rfl), (Nat.le_of_ble_eq_true rfl), (Nat.le_of_ble_eq_true rfl), (Nat.le_of_ble_eq_true rfl)⟩ ?_
  refine v_iload2 X dX4_needs_5 rfl ?_
  refine v_ico (v := 1) X dX4_needs_6 (by decide) ?_
  refine v_bip (v := 60) X dX4_needs_7 (by decide) ?_
  refine cd_X4_28 X dX4_needs_9 (c_isWithin l) (Nat.le_of_ble_eq_true rfl) ⟨(Nat.le_of_ble_eq_true rfl), (Nat.le_of_ble_eq_true rfl), (Nat.le_of_ble_eq_true rfl), (Nat.le_of_ble_eq_true rfl)⟩ ?_
  rw [inB_0 h2]
  exact cx_X4_36 X ht hlk dX4_needs_12 (x_needArgument l hst) (Nat.le_of_ble_eq_true rfl) ⟨(Nat.le_of_ble_eq_true rfl), (Nat.le_of_ble_eq_true rfl), (Nat.le_of_ble_eq_true rfl), (Nat.le_of_ble_eq_true rfl)⟩
/-- the best of so many tries -/
def bestS (v : Nat → Int32) (i : Nat) (lb : Int32 × Int32) : Int32 × Int32 := if v i < lb.1 then (v i, nI i) else lb
def liveA (ra le : Nat → Int32) (k : Nat) (S : tS) : Int32 := sumS 7 (daysS ra le k S) - sumS 7 S
def dirtyA (ra le : Nat → Int32) (k : Nat) (S : tS) : Int32 := (itr (bestS (fun i => liveA ra le k (clT i S))) 0 (sN S) (liveA ra le k S, -1)).2
def togT (i : Nat) (S : tS) : tS := tuT i (if sQ S i 3 = 0 then 1 else 0) S
def adviseA (ra le : Nat → Int32) (k : Nat) (S : tS) : Int32 := (itr (bestS (fun i => liveA ra le k (togT i S))) 0 (sP S) (liveA ra le k S, -1)).2
set_option maxRecDepth 100000 in
set_option maxHeartbeats 4000000 in
theorem c_dirty (l : Launch) {z0 n : Nat} {D : va_G} {cy : Nat → ClassId} {ad : Nat → Nat} {S : tS} {g0 : Nat → va_E} {ra le : Nat → Int32} {d k : Nat} (hR : RO ad n g0) (hv : VB cy ad n g0 29) (ho : ok S) (hw : WX cy ad n g0 ra le) (hwk : wok ra le) (hd : sM S 0 = nI d) (hd2 : d + k < 2 ^ 31) (h1 : IN (nI k) 1 60) : CtG l yX4_dirty cX4_dirty 6 (some FieldType.int) (rmv 7 155) z0 D cy n ad (gV cy ad 4 S g0) [.ref (ad 0), .int (nI k)] (tP (dirtyA ra le k S) cy ad n S g0) 0 0 := by
  refine ct_of (by decide +kernel) 4 [some (.ref (ad 0)), some (.int (nI k)), none, none, none, none] (Nat.le_of_ble_eq_true rfl) rfl ?_
  intro p e s m below meth c X hr hlk hnm
  generalize hQ : MQ below (QcR z0 D (tP (dirtyA ra le k S) cy ad n S g0)) ([.ref (ad 0), .int (nI k)] : List Value).toArray s 0 0 (fun q => z0 ≤ q) = Q
  have hN := ho.1
  have hL : ∀ q i, q + i = sN S → ∀ (lb : Int32 × Int32) (y : Option Value), (itr (bestS (fun i => liveA ra le k (clT i S))) i q lb).2 = dirtyA ra le k S → ∀ g1, TR cy ad n g0 g1 → vV p l e (rmv 7 155) s m ([.ref (ad 0), .int (nI k)] : List Value).toArray below meth c 6 z0 D 0 0 Q n ad (gV cy ad 4 S g1) 35 [some (.ref (ad 0)), some (.int (nI k)), some (.int lb.1), some (.int lb.2), some (.int (nI i)), none] [] := by
    intro m'
    induction m' with
    | zero =>
      intro i hi lb y he g1 hT
      have : i = sN S := by omega
      subst this
      refine v_iload X dX4_dirty_35 rfl ?_
      refine v_aload0 X dX4_dirty_37 rfl ?_
      refine gf_X4_21 X dX4_dirty_38 (hT.R hR).v.2 ?_
      refine gf_X4_47 X dX4_dirty_41 (gV_v hR.1) ?_
      refine v_icmp_ge (tgt := 100) X dX4_dirty_44 (by decide) (fun hc => ?_) (fun hc => ?_)
      · refine v_iload3 X dX4_dirty_100 rfl ?_
        rw [← hQ]
        exact v_iret X hr hlk dX4_dirty_101 ⟨congrArg (fun q => some (Value.int q)) he, rfl, rfl, g1, hT, rfl⟩
      exact absurd (Int32.le_refl _) hc
    | succ m' ih =>
      intro i hi lb y he g1 hT
      have hi' : i < sN S := by omega
      obtain ⟨T0, hT0⟩ := (hT.1.v4 ho).2.1
      have ht : vAt n (gV cy ad 4 S g1) 29 (cV ad 29 T0) := ⟨by have := hv.1; omega, hT0⟩
      have hD := (daysS_ok hwk (clT_ok ho hi') (d := d) hd k).1
      refine v_iload X dX4_dirty_35 rfl ?_
      refine v_aload0 X dX4_dirty_37 rfl ?_
      refine gf_X4_21 X dX4_dirty_38 (hT.R hR).v.2 ?_
      refine gf_X4_47 X dX4_dirty_41 (gV_v hR.1) ?_
      refine v_icmp_ge (tgt := 100) X dX4_dirty_44 (by decide) (fun hc => ?_) (fun hc => ?_)
      · exact absurd hc (nIge hi' (by omega))
      refine v_aload0 X dX4_dirty_47 rfl ?_
      refine gf_X4_25 X dX4_dirty_48 (hT.R hR).v.2 ?_
      refine v_aload0 X dX4_dirty_51 rfl ?_
      refine gf_X4_21 X dX4_dirty_52 (hT.R hR).v.2 ?_
      refine cd_X4_128 X dX4_dirty_55 (c_tcopy l hT.1 ho) ht rfl (Nat.le_of_ble_eq_true rfl) ⟨(Nat.le_of_ble_eq_true rfl), (Nat.le_of_ble_eq_true rfl), (Nat.le_of_ble_eq_true rfl), (Nat.le_of_ble_eq_true rfl)⟩ ?_
      refine v_aload0 X dX4_dirty_58 rfl ?_
      refine gf_X4_25 X dX4_dirty_59 (hT.R hR).v9.2 ?_
      refine gf_X4_70 X dX4_dirty_62 (gV_v hv.1) ?_
      refine v_iload X dX4_dirty_65 rfl ?_
      refine v_aaldH X dX4_dirty_67 (gV_ha hv.1) rfl (le10 ho hi') ?_
      refine v_ico (v := 0) X dX4_dirty_68 (by decide) ?_
      refine pf_X4_102 X dX4_dirty_69 (gV_h hv.1 ho.1 hi') ?_
      refine vV.gg (show _ = gV cy ad 29 (clT i S) _ from gV_upH (B := 29) (f := upd (sH S i) 5 0) ho.1 hi') ?_
      refine v_aload0 X dX4_dirty_72 rfl ?_
      refine gf_X4_25 X dX4_dirty_73 (hT.R hR).v9.2 ?_
      refine v_iload1 X dX4_dirty_76 rfl ?_
      refine cd_X4_122 X dX4_dirty_77 (c_X2_live l hv.1 (clT_ok ho hi') (by omega) (gV_W (by omega) (hT.W hw)) hwk hd hd2) (gV_v hv.1) rfl (Nat.le_of_ble_eq_true rfl) ⟨(Nat.le_of_ble_eq_true rfl), (Nat.le_of_ble_eq_true rfl), (Nat.le_of_ble_eq_true rfl), (Nat.le_of_ble_eq_true rfl)⟩ ?_
      refine v_istore5 X rfl (Nat.le_of_ble_eq_true rfl) dX4_dirty_80 ?_
      refine v_iload X dX4_dirty_82 rfl ?_
      refine v_iload2 X dX4_dirty_84 rfl ?_
      refine vV.gg (gV_29 ho hD) ?_
      have he' : (itr (bestS (fun i => liveA ra le k (clT i S))) (i + 1) m' (bestS (fun i => liveA ra le k (clT i S)) i lb)).2 = dirtyA ra le k S := he
      refine v_icmp_ge (tgt := 94) X dX4_dirty_85 (by decide) (fun hc2 => ?_) (fun hc2 => ?_)
      · refine v_iinc4 (v := nI (i + 1)) X rfl (Nat.le_of_ble_eq_true rfl) dX4_dirty_94 (nI_inc i) ?_
        refine v_goto (tgt := 35) X dX4_dirty_97 (by decide) ?_
        have hb : bestS (fun i => liveA ra le k (clT i S)) i lb = lb := if_neg (Int32.not_lt.mpr hc2)
        rw [hb] at he'
        exact vV.le (A := [some (.ref (ad 0)), some (.int (nI k)), some (.int lb.1), some (.int lb.2), some (.int (nI (i + 1))), none]) ⟨rfl, rfl, rfl, rfl, rfl, trivial⟩ (ih (i + 1) (by omega) lb y he' _ (hT.v hD))
      refine v_iload X dX4_dirty_88 rfl ?_
      refine v_istore2 X rfl (Nat.le_of_ble_eq_true rfl) dX4_dirty_90 ?_
      refine v_iload X dX4_dirty_91 rfl ?_
      refine v_istore3 X rfl (Nat.le_of_ble_eq_true rfl) dX4_dirty_93 ?_
      refine v_iinc4 (v := nI (i + 1)) X rfl (Nat.le_of_ble_eq_true rfl) dX4_dirty_94 (nI_inc i) ?_
      refine v_goto (tgt := 35) X dX4_dirty_97 (by decide) ?_
      have hb : bestS (fun i => liveA ra le k (clT i S)) i lb = (liveA ra le k (clT i S), nI i) := if_pos (Int32.not_le.mp hc2)
      rw [hb] at he'
      exact vV.le (A := [some (.ref (ad 0)), some (.int (nI k)), some (.int (liveA ra le k (clT i S))), some (.int (nI i)), some (.int (nI (i + 1))), none]) ⟨rfl, rfl, rfl, rfl, rfl, trivial⟩ (ih (i + 1) (by omega) _ y he' _ (hT.v hD))
  have hD0 := (daysS_ok hwk ho hd k).1
  obtain ⟨T0, hT0⟩ := (hv.v4 ho).2.1
  have ht0 : vAt n (gV cy ad 4 S g0) 29 (cV ad 29 T0) := ⟨by have := hv.1; omega, hT0⟩
  refine v_iload1 X dX4_dirty_0 rfl ?_
  refine v_ico (v := 1) X dX4_dirty_1 (by decide) ?_
  refine v_bip (v := 60) X dX4_dirty_2 (by decide) ?_
  refine cd_X4_28 X dX4_dirty_4 (c_isWithin l) (Nat.le_of_ble_eq_true rfl) ⟨(Nat.le_of_ble_eq_true rfl), (Nat.le_of_ble_eq_true rfl), (Nat.le_of_ble_eq_true rfl), (Nat.le_of_ble_eq_true rfl)⟩ ?_
  refine cd_X4_36 X dX4_dirty_7 (c_needArgument l (inB_ne h1)) (Nat.le_of_ble_eq_true rfl) ⟨(Nat.le_of_ble_eq_true rfl), (Nat.le_of_ble_eq_true rfl), (Nat.le_of_ble_eq_true rfl), (Nat.le_of_ble_eq_true rfl)⟩ ?_
  refine v_aload0 X dX4_dirty_10 rfl ?_
  refine gf_X4_25 X dX4_dirty_11 hR.v.2 ?_
  refine v_aload0 X dX4_dirty_14 rfl ?_
  refine gf_X4_21 X dX4_dirty_15 hR.v.2 ?_
  refine cd_X4_128 X dX4_dirty_18 (c_tcopy l hv ho) ht0 rfl (Nat.le_of_ble_eq_true rfl) ⟨(Nat.le_of_ble_eq_true rfl), (Nat.le_of_ble_eq_true rfl), (Nat.le_of_ble_eq_true rfl), (Nat.le_of_ble_eq_true rfl)⟩ ?_
  refine v_aload0 X dX4_dirty_21 rfl ?_
  refine gf_X4_25 X dX4_dirty_22 hR.v9.2 ?_
  refine v_iload1 X dX4_dirty_25 rfl ?_
  refine cd_X4_122 X dX4_dirty_26 (c_X2_live l hv.1 ho (by omega) (gV_W (by omega) hw) hwk hd hd2) (gV_v hv.1) rfl (Nat.le_of_ble_eq_true rfl) ⟨(Nat.le_of_ble_eq_true rfl), (Nat.le_of_ble_eq_true rfl), (Nat.le_of_ble_eq_true rfl), (Nat.le_of_ble_eq_true rfl)⟩ ?_
  refine v_istore2 X rfl (Nat.le_of_ble_eq_true rfl) dX4_dirty_29 ?_
  refine v_ico (v := -1) X dX4_dirty_30 (by decide) ?_
  refine v_istore3 X rfl (Nat.le_of_ble_eq_true rfl) dX4_dirty_31 ?_
  refine v_ico (v := 0) X dX4_dirty_32 (by decide) ?_
  refine v_istore4 X rfl (Nat.le_of_ble_eq_true rfl) dX4_dirty_33 ?_
  refine vV.gg (gV_29 ho hD0) ?_
  exact hL (sN S) 0 (Nat.add_zero _) (liveA ra le k S, -1) none rfl _ ((TR.rf hv).v hD0)
set_option maxRecDepth 100000 in
set_option maxHeartbeats 4000000 in
theorem x1_dirty (l : Launch) (hst : l.stackTraces = false) {z0 n : Nat} {D : va_G} {cy : Nat → ClassId} {ad : Nat → Nat} {g : Nat → va_E} {x : Int32} {k0 : Nat} (h1 : ¬ IN x 1 60) : CtX l yX4_dirty cX4_dirty 6 (some FieldType.int) 7 155 z0 D cy n ad g [.ref (ad k0), .int x] eA := by
  refine ctx_of (by decide +kernel) 4 [some (.ref (ad k0)), some (.int x), none, none, none, none] (Nat.le_of_ble_eq_true rfl) rfl ?_
  intro p e s m below meth c X ht hlk
  refine v_iload1 X dX4_dirty_0 rfl ?_
  refine v_ico (v := 1) X dX4_dirty_1 (by decide) ?_
  refine v_bip (v := 60) X dX4_dirty_2 (by decide) ?_
  refine cd_X4_28 X dX4_dirty_4 (c_isWithin l) (Nat.le_of_ble_eq_true rfl) ⟨(Nat.le_of_ble_eq_true rfl), (Nat.le_of_ble_eq_true rfl), (Nat.le_of_ble_eq_true rfl), (Nat.le_of_ble_eq_true rfl)⟩ ?_
  rw [inB_0 h1]
  exact cx_X4_36 X ht hlk dX4_dirty_7 (x_needArgument l hst) (Nat.le_of_ble_eq_true rfl) ⟨(Nat.le_of_ble_eq_true rfl), (Nat.le_of_ble_eq_true rfl), (Nat.le_of_ble_eq_true rfl), (Nat.le_of_ble_eq_true rfl)⟩
set_option maxRecDepth 100000 in
set_option maxHeartbeats 4000000 in
theorem c_advise (l : Launch) {z0 n : Nat} {D : va_G} {cy : Nat → ClassId} {ad : Nat → Nat} {S : tS} {g0 : Nat → va_E} {ra le : Nat → Int32} {d k : Nat} (hR : RO ad n g0) (hv : VB cy ad n g0 29) (ho : ok S) (hw : WX cy ad n g0 ra le) (hwk : wok ra le) (hd : sM S 0 = nI d) (hd2 : d + k < 2 ^ 31) (h1 : IN (nI k) 1 60) : CtG l yX4_advise cX4_advise 6 (some FieldType.int) (rmv 7 155) z0 D cy n ad (gV cy ad 4 S g0) [.ref (ad 0), .int (nI k)] (tP (adviseA ra le k S) cy ad n S g0) 0 0 := by
  refine ct_of (by decide +kernel) 4 [some (.ref (ad 0)), some (.int (nI k)), none, none, none, none] (Nat.le_of_ble_eq_true rfl) rfl ?_
  intro p e s m below meth c X hr hlk hnm
  generalize hQ : MQ below (QcR z0 D (tP (adviseA ra le k S) cy ad n S g0)) ([.ref (ad 0), .int (nI k)] : List Value).toArray s 0 0 (fun q => z0 ≤ q) = Q
  have hN := ho.2.1
  have hL : ∀ q i, q + i = sP S → ∀ (lb : Int32 × Int32) (y : Option Value), (itr (bestS (fun i => liveA ra le k (togT i S))) i q lb).2 = adviseA ra le k S → ∀ g1, TR cy ad n g0 g1 → vV p l e (rmv 7 155) s m ([.ref (ad 0), .int (nI k)] : List Value).toArray below meth c 6 z0 D 0 0 Q n ad (gV cy ad 4 S g1) 35 [some (.ref (ad 0)), some (.int (nI k)), some (.int lb.1), some (.int lb.2), some (.int (nI i)), none] [] := by
    intro m'
    induction m' with
    | zero =>
      intro i hi lb y he g1 hT
      have : i = sP S := by omega
      subst this
      refine v_iload X dX4_advise_35 rfl ?_
      refine v_aload0 X dX4_advise_37 rfl ?_
      refine gf_X4_21 X dX4_advise_38 (hT.R hR).v.2 ?_
      refine gf_X4_82 X dX4_advise_41 (gV_v hR.1) ?_
      refine v_icmp_ge (tgt := 120) X dX4_advise_44 (by decide) (fun hc => ?_) (fun hc => ?_)
      · refine v_iload3 X dX4_advise_120 rfl ?_
        rw [← hQ]
        exact v_iret X hr hlk dX4_advise_121 ⟨congrArg (fun q => some (Value.int q)) he, rfl, rfl, g1, hT, rfl⟩
      exact absurd (Int32.le_refl _) hc
    | succ m' ih =>
      intro i hi lb y he g1 hT
      have hi' : i < sP S := by omega
      obtain ⟨T0, hT0⟩ := (hT.1.v4 ho).2.1
      have ht : vAt n (gV cy ad 4 S g1) 29 (cV ad 29 T0) := ⟨by have := hv.1; omega, hT0⟩
      have hbb : isB (if sQ S i 3 = 0 then 1 else 0) := isB_if
      have hto : ok (togT i S) := tuT_ok ho hbb
      have hD := (daysS_ok hwk hto (d := d) hd k).1
      refine v_iload X dX4_advise_35 rfl ?_
      refine v_aload0 X dX4_advise_37 rfl ?_
      refine gf_X4_21 X dX4_advise_38 (hT.R hR).v.2 ?_
      refine gf_X4_82 X dX4_advise_41 (gV_v hR.1) ?_
      refine v_icmp_ge (tgt := 120) X dX4_advise_44 (by decide) (fun hc => ?_) (fun hc => ?_)
      · exact absurd hc (nIge hi' (by omega))
      refine v_aload0 X dX4_advise_47 rfl ?_
      refine gf_X4_25 X dX4_advise_48 (hT.R hR).v.2 ?_
      refine v_aload0 X dX4_advise_51 rfl ?_
      refine gf_X4_21 X dX4_advise_52 (hT.R hR).v.2 ?_
      refine cd_X4_128 X dX4_advise_55 (c_tcopy l hT.1 ho) ht rfl (Nat.le_of_ble_eq_true rfl) ⟨(Nat.le_of_ble_eq_true rfl), (Nat.le_of_ble_eq_true rfl), (Nat.le_of_ble_eq_true rfl), (Nat.le_of_ble_eq_true rfl)⟩ ?_
      refine v_aload0 X dX4_advise_58 rfl ?_
      refine gf_X4_25 X dX4_advise_59 (hT.R hR).v9.2 ?_
      refine gf_X4_92 X dX4_advise_62 (gV_v hv.1) ?_
      refine v_iload X dX4_advise_65 rfl ?_
      refine v_aaldP X dX4_advise_67 (gV_pa hv.1) rfl (le12 ho hi') ?_
      refine v_aload0 X dX4_advise_68 rfl ?_
      refine gf_X4_25 X dX4_advise_69 (hT.R hR).v9.2 ?_
      refine gf_X4_92 X dX4_advise_72 (gV_v hv.1) ?_
      refine v_iload X dX4_advise_75 rfl ?_
      refine v_aaldP X dX4_advise_77 (gV_pa hv.1) rfl (le12 ho hi') ?_
      refine gf_X4_96 X dX4_advise_78 (gV_p hv.1 ho.1 ho.2.1 hi') ?_
      have hG : vV p l e (rmv 7 155) s m ([.ref (ad 0), .int (nI k)] : List Value).toArray below meth c 6 z0 D 0 0 Q n ad (gV cy ad 29 S (gV cy ad 4 S g1)) 89 [some (.ref (ad 0)), some (.int (nI k)), some (.int lb.1), some (.int lb.2), some (.int (nI i)), none] [.int (if sQ S i 3 = 0 then 1 else 0), .ref (ad (29 + 13 + i))] := by
        refine pf_X4_96 X dX4_advise_89 (isB_n hbb) (isB_f hbb) (gV_p hv.1 ho.1 ho.2.1 hi') ?_
        refine vV.gg (show _ = gV cy ad 29 (togT i S) _ from gV_upP (B := 29) (f := upd (sQ S i) 3 (if sQ S i 3 = 0 then 1 else 0)) ho.1 ho.2.1 hi') ?_
        refine v_aload0 X dX4_advise_92 rfl ?_
        refine gf_X4_25 X dX4_advise_93 (hT.R hR).v9.2 ?_
        refine v_iload1 X dX4_advise_96 rfl ?_
        refine cd_X4_122 X dX4_advise_97 (c_X2_live l hv.1 hto (by omega) (gV_W (by omega) (hT.W hw)) hwk hd hd2) (gV_v hv.1) rfl (Nat.le_of_ble_eq_true rfl) ⟨(Nat.le_of_ble_eq_true rfl), (Nat.le_of_ble_eq_true rfl), (Nat.le_of_ble_eq_true rfl), (Nat.le_of_ble_eq_true rfl)⟩ ?_
        refine v_istore5 X rfl (Nat.le_of_ble_eq_true rfl) dX4_advise_100 ?_
        refine v_iload X dX4_advise_102 rfl ?_
        refine v_iload2 X dX4_advise_104 rfl ?_
        refine vV.gg (gV_29 ho hD) ?_
        have he' : (itr (bestS (fun i => liveA ra le k (togT i S))) (i + 1) m' (bestS (fun i => liveA ra le k (togT i S)) i lb)).2 = adviseA ra le k S := he
        refine v_icmp_ge (tgt := 114) X dX4_advise_105 (by decide) (fun hc2 => ?_) (fun hc2 => ?_)
        · refine v_iinc4 (v := nI (i + 1)) X rfl (Nat.le_of_ble_eq_true rfl) dX4_advise_114 (nI_inc i) ?_
          refine v_goto (tgt := 35) X dX4_advise_117 (by decide) ?_
          have hb : bestS (fun i => liveA ra le k (togT i S)) i lb = lb := if_neg (Int32.not_lt.mpr hc2)
          rw [hb] at he'
          exact vV.le (A := [some (.ref (ad 0)), some (.int (nI k)), some (.int lb.1), some (.int lb.2), some (.int (nI (i + 1))), none]) ⟨rfl, rfl, rfl, rfl, rfl, trivial⟩ (ih (i + 1) (by omega) lb y he' _ (hT.v hD))
        refine v_iload X dX4_advise_108 rfl ?_
        refine v_istore2 X rfl (Nat.le_of_ble_eq_true rfl) dX4_advise_110 ?_
        refine v_iload X dX4_advise_111 rfl ?_
        refine v_istore3 X rfl (Nat.le_of_ble_eq_true rfl) dX4_advise_113 ?_
        refine v_iinc4 (v := nI (i + 1)) X rfl (Nat.le_of_ble_eq_true rfl) dX4_advise_114 (nI_inc i) ?_
        refine v_goto (tgt := 35) X dX4_advise_117 (by decide) ?_
        have hb : bestS (fun i => liveA ra le k (togT i S)) i lb = (liveA ra le k (togT i S), nI i) := if_pos (Int32.not_le.mp hc2)
        rw [hb] at he'
        exact vV.le (A := [some (.ref (ad 0)), some (.int (nI k)), some (.int (liveA ra le k (togT i S))), some (.int (nI i)), some (.int (nI (i + 1))), none]) ⟨rfl, rfl, rfl, rfl, rfl, trivial⟩ (ih (i + 1) (by omega) _ y he' _ (hT.v hD))
      refine v_if_ne (tgt := 88) X dX4_advise_81 (by decide) (fun hc3 => ?_) (fun hc3 => ?_)
      · refine v_ico (v := 0) X dX4_advise_88 (by decide) ?_
        rw [if_neg hc3] at hG
        exact hG
      refine v_ico (v := 1) X dX4_advise_84 (by decide) ?_
      refine v_goto (tgt := 89) X dX4_advise_85 (by decide) ?_
      rw [if_pos hc3] at hG
      exact hG
  have hD0 := (daysS_ok hwk ho hd k).1
  obtain ⟨T0, hT0⟩ := (hv.v4 ho).2.1
  have ht0 : vAt n (gV cy ad 4 S g0) 29 (cV ad 29 T0) := ⟨by have := hv.1; omega, hT0⟩
  refine v_iload1 X dX4_advise_0 rfl ?_
  refine v_ico (v := 1) X dX4_advise_1 (by decide) ?_
  refine v_bip (v := 60) X dX4_advise_2 (by decide) ?_
  refine cd_X4_28 X dX4_advise_4 (c_isWithin l) (Nat.le_of_ble_eq_true rfl) ⟨(Nat.le_of_ble_eq_true rfl), (Nat.le_of_ble_eq_true rfl), (Nat.le_of_ble_eq_true rfl), (Nat.le_of_ble_eq_true rfl)⟩ ?_
  refine cd_X4_36 X dX4_advise_7 (c_needArgument l (inB_ne h1)) (Nat.le_of_ble_eq_true rfl) ⟨(Nat.le_of_ble_eq_true rfl), (Nat.le_of_ble_eq_true rfl), (Nat.le_of_ble_eq_true rfl), (Nat.le_of_ble_eq_true rfl)⟩ ?_
  refine v_aload0 X dX4_advise_10 rfl ?_
  refine gf_X4_25 X dX4_advise_11 hR.v.2 ?_
  refine v_aload0 X dX4_advise_14 rfl ?_
  refine gf_X4_21 X dX4_advise_15 hR.v.2 ?_
  refine cd_X4_128 X dX4_advise_18 (c_tcopy l hv ho) ht0 rfl (Nat.le_of_ble_eq_true rfl) ⟨(Nat.le_of_ble_eq_true rfl), (Nat.le_of_ble_eq_true rfl), (Nat.le_of_ble_eq_true rfl), (Nat.le_of_ble_eq_true rfl)⟩ ?_
  refine v_aload0 X dX4_advise_21 rfl ?_
  refine gf_X4_25 X dX4_advise_22 hR.v9.2 ?_
  refine v_iload1 X dX4_advise_25 rfl ?_
  refine cd_X4_122 X dX4_advise_26 (c_X2_live l hv.1 ho (by omega) (gV_W (by omega) hw) hwk hd hd2) (gV_v hv.1) rfl (Nat.le_of_ble_eq_true rfl) ⟨(Nat.le_of_ble_eq_true rfl), (Nat.le_of_ble_eq_true rfl), (Nat.le_of_ble_eq_true rfl), (Nat.le_of_ble_eq_true rfl)⟩ ?_
  refine v_istore2 X rfl (Nat.le_of_ble_eq_true rfl) dX4_advise_29 ?_
  refine v_ico (v := -1) X dX4_advise_30 (by decide) ?_
  refine v_istore3 X rfl (Nat.le_of_ble_eq_true rfl) dX4_advise_31 ?_
  refine v_ico (v := 0) X dX4_advise_32 (by decide) ?_
  refine v_istore4 X rfl (Nat.le_of_ble_eq_true rfl) dX4_advise_33 ?_
  refine vV.gg (gV_29 ho hD0) ?_
  exact hL (sP S) 0 (Nat.add_zero _) (liveA ra le k S, -1) none rfl _ ((TR.rf hv).v hD0)
set_option maxRecDepth 100000 in
set_option maxHeartbeats 4000000 in
theorem x1_advise (l : Launch) (hst : l.stackTraces = false) {z0 n : Nat} {D : va_G} {cy : Nat → ClassId} {ad : Nat → Nat} {g : Nat → va_E} {x : Int32} {k0 : Nat} (h1 : ¬ IN x 1 60) : CtX l yX4_advise cX4_advise 6 (some FieldType.int) 7 155 z0 D cy n ad g [.ref (ad k0), .int x] eA := by
  refine ctx_of (by decide +kernel) 4 [some (.ref (ad k0)), some (.int x), none, none, none, none] (Nat.le_of_ble_eq_true rfl) rfl ?_
  intro p e s m below meth c X ht hlk
  refine v_iload1 X dX4_advise_0 rfl ?_
  refine v_ico (v := 1) X dX4_advise_1 (by decide) ?_
  refine v_bip (v := 60) X dX4_advise_2 (by decide) ?_
  refine cd_X4_28 X dX4_advise_4 (c_isWithin l) (Nat.le_of_ble_eq_true rfl) ⟨(Nat.le_of_ble_eq_true rfl), (Nat.le_of_ble_eq_true rfl), (Nat.le_of_ble_eq_true rfl), (Nat.le_of_ble_eq_true rfl)⟩ ?_
  rw [inB_0 h1]
  exact cx_X4_36 X ht hlk dX4_advise_7 (x_needArgument l hst) (Nat.le_of_ble_eq_true rfl) ⟨(Nat.le_of_ble_eq_true rfl), (Nat.le_of_ble_eq_true rfl), (Nat.le_of_ble_eq_true rfl), (Nat.le_of_ble_eq_true rfl)⟩
