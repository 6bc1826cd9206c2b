/-! House, by contracts: one cell of the world -/
def tkF (f : Nat → Int32) (a : Int32) : Int32 := jmin a (f 1 - f 2)
def takeF (f : Nat → Int32) (a : Int32) : Nat → Int32 := upd f 2 (f 2 + tkF f a)
def drkF (f : Nat → Int32) : Int32 := jmin (3 * f 3) (f 2)
def drinkF (f : Nat → Int32) : Nat → Int32 := upd (upd (upd f 2 (f 2 - drkF f)) 7 (f 7 + (3 * f 3 - drkF f))) 9 (if drkF f < 3 * f 3 then f 9 + 1 else f 9)
def gvnF (f : Nat → Int32) : Int32 := jmin (f 4) ((2 * f 2 - f 1) / 2)
def gardF (f : Nat → Int32) : Nat → Int32 := if 0 < 2 * f 2 - f 1 then upd (upd f 2 (f 2 - gvnF f)) 8 (f 8 + gvnF f) else f
def clogF (f : Nat → Int32) (a : Int32) : Nat → Int32 := upd f 5 (jmin 10 (f 5 + a))
def sizeF (f : Nat → Int32) (a : Int32) : Nat → Int32 := upd (upd f 1 a) 2 (jmin (f 2) a)
set_option maxRecDepth 100000 in
set_option maxHeartbeats 4000000 in
theorem c_X0_copy (l : Launch) {z0 n : Nat} {D : va_G} {cy : Nat → ClassId} {ad : Nat → Nat} {g : Nat → va_E} {k k2 : Nat} {f f2 : Nat → Int32} (hk : vAt n g k (cH f)) (hk2 : vAt n g k2 (cH f2)) (hne : k2 ≠ k) : Ct0 l yX0_copy cX0_copy 2 none 0 0 z0 D cy n ad g [.ref (ad k), .ref (ad k2)] none (va_up g k (cH f2)) := by
  refine ct_of (by decide +kernel) 0 [some (.ref (ad k)), some (.ref (ad k2))] (Nat.le_of_ble_eq_true rfl) rfl ?_
  intro p e s m below meth c X hr hlk hnm
  refine vV.gg (va_up_eta _ _ _ hk.2).symm ?_
  refine v_aload0 X dX0_copy_0 rfl ?_
  refine v_aload1 X dX0_copy_1 rfl ?_
  refine gf_X0_15 X dX0_copy_2 (hk2.ne hne) ?_
  refine pf_X0_15 X dX0_copy_5 hk.up ?_
  refine vV.gg (va_up_up _ _ _ _) ?_
  refine v_aload0 X dX0_copy_8 rfl ?_
  refine v_aload1 X dX0_copy_9 rfl ?_
  refine gf_X0_18 X dX0_copy_10 (hk2.ne hne) ?_
  refine pf_X0_18 X dX0_copy_13 hk.up ?_
  refine vV.gg (va_up_up _ _ _ _) ?_
  refine v_aload0 X dX0_copy_16 rfl ?_
  refine v_aload1 X dX0_copy_17 rfl ?_
  refine gf_X0_21 X dX0_copy_18 (hk2.ne hne) ?_
  refine pf_X0_21 X dX0_copy_21 hk.up ?_
  refine vV.gg (va_up_up _ _ _ _) ?_
  refine v_aload0 X dX0_copy_24 rfl ?_
  refine v_aload1 X dX0_copy_25 rfl ?_
  refine gf_X0_24 X dX0_copy_26 (hk2.ne hne) ?_
  refine pf_X0_24 X dX0_copy_29 hk.up ?_
  refine vV.gg (va_up_up _ _ _ _) ?_
  refine v_aload0 X dX0_copy_32 rfl ?_
  refine v_aload1 X dX0_copy_33 rfl ?_
  refine gf_X0_27 X dX0_copy_34 (hk2.ne hne) ?_
  refine pf_X0_27 X dX0_copy_37 hk.up ?_
  refine vV.gg (va_up_up _ _ _ _) ?_
  refine v_aload0 X dX0_copy_40 rfl ?_
  refine v_aload1 X dX0_copy_41 rfl ?_
  refine gf_X0_30 X dX0_copy_42 (hk2.ne hne) ?_
  refine pf_X0_30 X dX0_copy_45 hk.up ?_
  refine vV.gg (va_up_up _ _ _ _) ?_
  refine v_aload0 X dX0_copy_48 rfl ?_
  refine v_aload1 X dX0_copy_49 rfl ?_
  refine gf_X0_9 X dX0_copy_50 (hk2.ne hne) ?_
  refine pf_X0_9 X dX0_copy_53 hk.up ?_
  refine vV.gg (va_up_up _ _ _ _) ?_
  refine v_aload0 X dX0_copy_56 rfl ?_
  refine v_aload1 X dX0_copy_57 rfl ?_
  refine gf_X0_33 X dX0_copy_58 (hk2.ne hne) ?_
  refine pf_X0_33 X dX0_copy_61 hk.up ?_
  refine vV.gg (va_up_up _ _ _ _) ?_
  refine v_aload0 X dX0_copy_64 rfl ?_
  refine v_aload1 X dX0_copy_65 rfl ?_
  refine gf_X0_36 X dX0_copy_66 (hk2.ne hne) ?_
  refine pf_X0_36 X dX0_copy_69 hk.up ?_
  refine vV.gg (va_up_up _ _ _ _) ?_
  refine v_aload0 X dX0_copy_72 rfl ?_
  refine v_aload1 X dX0_copy_73 rfl ?_
  refine gf_X0_39 X dX0_copy_74 (hk2.ne hne) ?_
  refine pf_X0_39 X dX0_copy_77 hk.up ?_
  refine vV.gg (va_up_up _ _ _ _) ?_
  exact v_vret X hr hlk dX0_copy_80 ⟨rfl, rfl, rfl, rfl⟩
set_option maxRecDepth 100000 in
set_option maxHeartbeats 4000000 in
theorem c_X0_runOff (l : Launch) {z0 n : Nat} {D : va_G} {cy : Nat → ClassId} {ad : Nat → Nat} {g : Nat → va_E} {k : Nat} {f : Nat → Int32} {a : Int32} (hk : vAt n g k (cH f)) : Ct0 l yX0_runOff cX0_runOff 2 (some FieldType.int) 0 0 z0 D cy n ad g [.ref (ad k), .int a] (some (.int (f 0 * a * (10 - f 5) / 10))) g := by
  refine ct_of (by decide +kernel) 0 [some (.ref (ad k)), some (.int a)] (Nat.le_of_ble_eq_true rfl) rfl ?_
  intro p e s m below meth c X hr hlk hnm
  refine v_aload0 X dX0_runOff_0 rfl ?_
  refine gf_X0_15 X dX0_runOff_1 hk ?_
  refine v_iload1 X dX0_runOff_4 rfl ?_
  refine v_imul X dX0_runOff_5 ?_
  refine v_bip (v := 10) X dX0_runOff_6 (by decide) ?_
  refine v_aload0 X dX0_runOff_8 rfl ?_
  refine gf_X0_30 X dX0_runOff_9 hk ?_
  refine v_isub X dX0_runOff_12 ?_
  refine v_imul X dX0_runOff_13 ?_
  refine v_bip (v := 10) X dX0_runOff_14 (by decide) ?_
  refine v_idiv X dX0_runOff_16 (by decide) ?_
  exact v_iret X hr hlk dX0_runOff_17 ⟨rfl, rfl, rfl, rfl⟩
set_option maxRecDepth 100000 in
set_option maxHeartbeats 4000000 in
theorem c_X0_takeIn (l : Launch) {z0 n : Nat} {D : va_G} {cy : Nat → ClassId} {ad : Nat → Nat} {g : Nat → va_E} {k : Nat} {f : Nat → Int32} {a : Int32} (hk : vAt n g k (cH f)) : Ct0 l yX0_takeIn cX0_takeIn 3 (some FieldType.int) 1 40 z0 D cy n ad g [.ref (ad k), .int a] (some (.int (a - tkF f a))) (va_up g k (cH (takeF f a))) := by
  refine ct_of (by decide +kernel) 1 [some (.ref (ad k)), some (.int a), none] (Nat.le_of_ble_eq_true rfl) rfl ?_
  intro p e s m below meth c X hr hlk hnm
  refine vV.gg (va_up_eta _ _ _ hk.2).symm ?_
  refine v_iload1 X dX0_takeIn_0 rfl ?_
  refine v_aload0 X dX0_takeIn_1 rfl ?_
  refine gf_X0_18 X dX0_takeIn_2 hk.up ?_
  refine v_aload0 X dX0_takeIn_5 rfl ?_
  refine gf_X0_21 X dX0_takeIn_6 hk.up ?_
  refine v_isub X dX0_takeIn_9 ?_
  refine v_mmin X dX0_takeIn_10 wm_X0_42 wt_J9_min_7cf53 wz_J9 wc_J9_min_7cf53 ⟨(Nat.le_of_ble_eq_true rfl), (Nat.le_of_ble_eq_true rfl), (Nat.le_of_ble_eq_true rfl), (Nat.le_of_ble_eq_true rfl)⟩ ?_
  refine v_istore2 X rfl (Nat.le_of_ble_eq_true rfl) dX0_takeIn_13 ?_
  refine v_aload0 X dX0_takeIn_14 rfl ?_
  refine v_dup X dX0_takeIn_15 rfl ?_
  refine gf_X0_21 X dX0_takeIn_16 hk.up ?_
  refine v_iload2 X dX0_takeIn_19 rfl ?_
  refine v_iadd X dX0_takeIn_20 ?_
  refine pf_X0_21 X dX0_takeIn_21 hk.up ?_
  refine vV.gg (va_up_up _ _ _ _) ?_
  refine v_iload1 X dX0_takeIn_24 rfl ?_
  refine v_iload2 X dX0_takeIn_25 rfl ?_
  refine v_isub X dX0_takeIn_26 ?_
  exact v_iret X hr hlk dX0_takeIn_27 ⟨rfl, rfl, rfl, rfl⟩
set_option maxRecDepth 100000 in
set_option maxHeartbeats 4000000 in
theorem c_X0_drink (l : Launch) {z0 n : Nat} {D : va_G} {cy : Nat → ClassId} {ad : Nat → Nat} {g : Nat → va_E} {k : Nat} {f : Nat → Int32} (hk : vAt n g k (cH f)) : Ct0 l yX0_drink cX0_drink 3 (some FieldType.int) 1 40 z0 D cy n ad g [.ref (ad k)] (some (.int (drkF f))) (va_up g k (cH (drinkF f))) := by
  refine ct_of (by decide +kernel) 2 [some (.ref (ad k)), none, none] (Nat.le_of_ble_eq_true rfl) rfl ?_
  intro p e s m below meth c X hr hlk hnm
  refine vV.gg (va_up_eta _ _ _ hk.2).symm ?_
  refine v_ico (v := 3) X dX0_drink_0 (by decide) ?_
  refine v_aload0 X dX0_drink_1 rfl ?_
  refine gf_X0_24 X dX0_drink_2 hk.up ?_
  refine v_imul X dX0_drink_5 ?_
  refine v_istore1 X rfl (Nat.le_of_ble_eq_true rfl) dX0_drink_6 ?_
  refine v_iload1 X dX0_drink_7 rfl ?_
  refine v_aload0 X dX0_drink_8 rfl ?_
  refine gf_X0_21 X dX0_drink_9 hk.up ?_
  refine v_mmin X dX0_drink_12 wm_X0_42 wt_J9_min_7cf53 wz_J9 wc_J9_min_7cf53 ⟨(Nat.le_of_ble_eq_true rfl), (Nat.le_of_ble_eq_true rfl), (Nat.le_of_ble_eq_true rfl), (Nat.le_of_ble_eq_true rfl)⟩ ?_
  refine v_istore2 X rfl (Nat.le_of_ble_eq_true rfl) dX0_drink_15 ?_
  refine v_aload0 X dX0_drink_16 rfl ?_
  refine v_dup X dX0_drink_17 rfl ?_
  refine gf_X0_21 X dX0_drink_18 hk.up ?_
  refine v_iload2 X dX0_drink_21 rfl ?_
  refine v_isub X dX0_drink_22 ?_
  refine pf_X0_21 X dX0_drink_23 hk.up ?_
  refine vV.gg (va_up_up _ _ _ _) ?_
  refine v_aload0 X dX0_drink_26 rfl ?_
  refine v_dup X dX0_drink_27 rfl ?_
  refine gf_X0_33 X dX0_drink_28 hk.up ?_
  refine v_iload1 X dX0_drink_31 rfl ?_
  refine v_iload2 X dX0_drink_32 rfl ?_
  refine v_isub X dX0_drink_33 ?_
  refine v_iadd X dX0_drink_34 ?_
  refine pf_X0_33 X dX0_drink_35 hk.up ?_
  refine vV.gg (va_up_up _ _ _ _) ?_
  refine v_iload2 X dX0_drink_38 rfl ?_
  refine v_iload1 X dX0_drink_39 rfl ?_
  refine v_icmp_ge (tgt := 53) X dX0_drink_40 (by decide) (fun hc => ?_) (fun hc => ?_)
  · have e : (if drkF f < 3 * f 3 then f 9 + 1 else f 9) = f 9 := if_neg (Int32.not_lt.mpr hc)
    refine v_iload2 X dX0_drink_53 rfl ?_
    exact v_iret X hr hlk dX0_drink_54 ⟨rfl, rfl, rfl, by unfold drinkF; rw [e]; rfl⟩
  · have e : (if drkF f < 3 * f 3 then f 9 + 1 else f 9) = f 9 + 1 := if_pos (Int32.not_le.mp hc)
    refine v_aload0 X dX0_drink_43 rfl ?_
    refine v_dup X dX0_drink_44 rfl ?_
    refine gf_X0_39 X dX0_drink_45 hk.up ?_
    refine v_ico (v := 1) X dX0_drink_48 (by decide) ?_
    refine v_iadd X dX0_drink_49 ?_
    refine pf_X0_39 X dX0_drink_50 hk.up ?_
    refine vV.gg (va_up_up _ _ _ _) ?_
    refine v_iload2 X dX0_drink_53 rfl ?_
    exact v_iret X hr hlk dX0_drink_54 ⟨rfl, rfl, rfl, by unfold drinkF; rw [e]; rfl⟩
set_option maxRecDepth 100000 in
set_option maxHeartbeats 4000000 in
theorem c_X0_waterGarden (l : Launch) {z0 n : Nat} {D : va_G} {cy : Nat → ClassId} {ad : Nat → Nat} {g : Nat → va_E} {k : Nat} {f : Nat → Int32} (hk : vAt n g k (cH f)) : Ct0 l yX0_waterGarden cX0_waterGarden 3 none 1 40 z0 D cy n ad g [.ref (ad k)] none (va_up g k (cH (gardF f))) := by
  refine ct_of (by decide +kernel) 2 [some (.ref (ad k)), none, none] (Nat.le_of_ble_eq_true rfl) rfl ?_
  intro p e s m below meth c X hr hlk hnm
  refine vV.gg (va_up_eta _ _ _ hk.2).symm ?_
  refine v_ico (v := 2) X dX0_waterGarden_0 (by decide) ?_
  refine v_aload0 X dX0_waterGarden_1 rfl ?_
  refine gf_X0_21 X dX0_waterGarden_2 hk.up ?_
  refine v_imul X dX0_waterGarden_5 ?_
  refine v_aload0 X dX0_waterGarden_6 rfl ?_
  refine gf_X0_18 X dX0_waterGarden_7 hk.up ?_
  refine v_isub X dX0_waterGarden_10 ?_
  refine v_istore1 X rfl (Nat.le_of_ble_eq_true rfl) dX0_waterGarden_11 ?_
  refine v_iload1 X dX0_waterGarden_12 rfl ?_
  refine v_if_le (tgt := 47) X dX0_waterGarden_13 (by decide) (fun hc => ?_) (fun hc => ?_)
  · exact v_vret X hr hlk dX0_waterGarden_47 ⟨rfl, rfl, rfl, by unfold gardF; rw [if_neg (Int32.not_lt.mpr hc)]⟩
  · refine v_aload0 X dX0_waterGarden_16 rfl ?_
    refine gf_X0_27 X dX0_waterGarden_17 hk.up ?_
    refine v_iload1 X dX0_waterGarden_20 rfl ?_
    refine v_ico (v := 2) X dX0_waterGarden_21 (by decide) ?_
    refine v_idiv X dX0_waterGarden_22 (by decide) ?_
    refine v_mmin X dX0_waterGarden_23 wm_X0_42 wt_J9_min_7cf53 wz_J9 wc_J9_min_7cf53 ⟨(Nat.le_of_ble_eq_true rfl), (Nat.le_of_ble_eq_true rfl), (Nat.le_of_ble_eq_true rfl), (Nat.le_of_ble_eq_true rfl)⟩ ?_
    refine v_istore2 X rfl (Nat.le_of_ble_eq_true rfl) dX0_waterGarden_26 ?_
    refine v_aload0 X dX0_waterGarden_27 rfl ?_
    refine v_dup X dX0_waterGarden_28 rfl ?_
    refine gf_X0_21 X dX0_waterGarden_29 hk.up ?_
    refine v_iload2 X dX0_waterGarden_32 rfl ?_
    refine v_isub X dX0_waterGarden_33 ?_
    refine pf_X0_21 X dX0_waterGarden_34 hk.up ?_
    refine vV.gg (va_up_up _ _ _ _) ?_
    refine v_aload0 X dX0_waterGarden_37 rfl ?_
    refine v_dup X dX0_waterGarden_38 rfl ?_
    refine gf_X0_36 X dX0_waterGarden_39 hk.up ?_
    refine v_iload2 X dX0_waterGarden_42 rfl ?_
    refine v_iadd X dX0_waterGarden_43 ?_
    refine pf_X0_36 X dX0_waterGarden_44 hk.up ?_
    refine vV.gg (va_up_up _ _ _ _) ?_
    exact v_vret X hr hlk dX0_waterGarden_47 ⟨rfl, rfl, rfl, by unfold gardF; rw [if_pos (Int32.not_le.mp hc)]; rfl⟩
set_option maxRecDepth 100000 in
set_option maxHeartbeats 4000000 in
theorem c_X0_clog (l : Launch) {z0 n : Nat} {D : va_G} {cy : Nat → ClassId} {ad : Nat → Nat} {g : Nat → va_E} {k : Nat} {f : Nat → Int32} {a : Int32} (hk : vAt n g k (cH f)) : Ct0 l yX0_clog cX0_clog 2 none 1 40 z0 D cy n ad g [.ref (ad k), .int a] none (va_up g k (cH (clogF f a))) := by
  refine ct_of (by decide +kernel) 0 [some (.ref (ad k)), some (.int a)] (Nat.le_of_ble_eq_true rfl) rfl ?_
  intro p e s m below meth c X hr hlk hnm
  refine vV.gg (va_up_eta _ _ _ hk.2).symm ?_
  refine v_aload0 X dX0_clog_0 rfl ?_
  refine v_bip (v := 10) X dX0_clog_1 (by decide) ?_
  refine v_aload0 X dX0_clog_3 rfl ?_
  refine gf_X0_30 X dX0_clog_4 hk.up ?_
  refine v_iload1 X dX0_clog_7 rfl ?_
  refine v_iadd X dX0_clog_8 ?_
  refine v_mmin X dX0_clog_9 wm_X0_42 wt_J9_min_7cf53 wz_J9 wc_J9_min_7cf53 ⟨(Nat.le_of_ble_eq_true rfl), (Nat.le_of_ble_eq_true rfl), (Nat.le_of_ble_eq_true rfl), (Nat.le_of_ble_eq_true rfl)⟩ ?_
  refine pf_X0_30 X dX0_clog_12 hk.up ?_
  refine vV.gg (va_up_up _ _ _ _) ?_
  exact v_vret X hr hlk dX0_clog_15 ⟨rfl, rfl, rfl, rfl⟩
set_option maxRecDepth 100000 in
set_option maxHeartbeats 4000000 in
theorem c_X0_fact (l : Launch) {z0 n : Nat} {D : va_G} {cy : Nat → ClassId} {ad : Nat → Nat} {g : Nat → va_E} {k : Nat} {f : Nat → Int32} {j : Nat} (hj : j < 10) (hk : vAt n g k (cH f)) : Ct0 l yX0_fact cX0_fact 2 (some FieldType.int) 0 0 z0 D cy n ad g [.ref (ad k), .int (nI j)] (some (.int (f j))) g := by
  refine ct_of (by decide +kernel) 0 [some (.ref (ad k)), some (.int (nI j))] (Nat.le_of_ble_eq_true rfl) rfl ?_
  intro p e s m below meth c X hr hlk hnm
  refine v_iload1 X dX0_fact_0 rfl ?_
  match j, hj with
  | 0, _ =>
    refine v_tabIn (off := 51) (tgt := 52) X dX0_fact_1 (by decide) (by decide) (by decide) (by decide) ?_
    refine v_aload0 X dX0_fact_52 rfl ?_
    refine gf_X0_15 X dX0_fact_53 hk ?_
    exact v_iret X hr hlk dX0_fact_56 ⟨rfl, rfl, rfl, rfl⟩
  | 1, _ =>
    refine v_tabIn (off := 56) (tgt := 57) X dX0_fact_1 (by decide) (by decide) (by decide) (by decide) ?_
    refine v_aload0 X dX0_fact_57 rfl ?_
    refine gf_X0_18 X dX0_fact_58 hk ?_
    exact v_iret X hr hlk dX0_fact_61 ⟨rfl, rfl, rfl, rfl⟩
  | 2, _ =>
    refine v_tabIn (off := 61) (tgt := 62) X dX0_fact_1 (by decide) (by decide) (by decide) (by decide) ?_
    refine v_aload0 X dX0_fact_62 rfl ?_
    refine gf_X0_21 X dX0_fact_63 hk ?_
    exact v_iret X hr hlk dX0_fact_66 ⟨rfl, rfl, rfl, rfl⟩
  | 3, _ =>
    refine v_tabIn (off := 66) (tgt := 67) X dX0_fact_1 (by decide) (by decide) (by decide) (by decide) ?_
    refine v_aload0 X dX0_fact_67 rfl ?_
    refine gf_X0_24 X dX0_fact_68 hk ?_
    exact v_iret X hr hlk dX0_fact_71 ⟨rfl, rfl, rfl, rfl⟩
  | 4, _ =>
    refine v_tabIn (off := 71) (tgt := 72) X dX0_fact_1 (by decide) (by decide) (by decide) (by decide) ?_
    refine v_aload0 X dX0_fact_72 rfl ?_
    refine gf_X0_27 X dX0_fact_73 hk ?_
    exact v_iret X hr hlk dX0_fact_76 ⟨rfl, rfl, rfl, rfl⟩
  | 5, _ =>
    refine v_tabIn (off := 76) (tgt := 77) X dX0_fact_1 (by decide) (by decide) (by decide) (by decide) ?_
    refine v_aload0 X dX0_fact_77 rfl ?_
    refine gf_X0_30 X dX0_fact_78 hk ?_
    exact v_iret X hr hlk dX0_fact_81 ⟨rfl, rfl, rfl, rfl⟩
  | 6, _ =>
    refine v_tabIn (off := 81) (tgt := 82) X dX0_fact_1 (by decide) (by decide) (by decide) (by decide) ?_
    refine v_aload0 X dX0_fact_82 rfl ?_
    refine gf_X0_9 X dX0_fact_83 hk ?_
    exact v_iret X hr hlk dX0_fact_86 ⟨rfl, rfl, rfl, rfl⟩
  | 7, _ =>
    refine v_tabIn (off := 86) (tgt := 87) X dX0_fact_1 (by decide) (by decide) (by decide) (by decide) ?_
    refine v_aload0 X dX0_fact_87 rfl ?_
    refine gf_X0_33 X dX0_fact_88 hk ?_
    exact v_iret X hr hlk dX0_fact_91 ⟨rfl, rfl, rfl, rfl⟩
  | 8, _ =>
    refine v_tabIn (off := 91) (tgt := 92) X dX0_fact_1 (by decide) (by decide) (by decide) (by decide) ?_
    refine v_aload0 X dX0_fact_92 rfl ?_
    refine gf_X0_36 X dX0_fact_93 hk ?_
    exact v_iret X hr hlk dX0_fact_96 ⟨rfl, rfl, rfl, rfl⟩
  | 9, _ =>
    refine v_tabOut (tgt := 97) X dX0_fact_1 (by decide) (by decide) ?_
    refine v_aload0 X dX0_fact_97 rfl ?_
    refine gf_X0_39 X dX0_fact_98 hk ?_
    exact v_iret X hr hlk dX0_fact_101 ⟨rfl, rfl, rfl, rfl⟩
  | j + 10, h => exact absurd h (by omega)
