/-! Pipe, by contracts -/
def flwF (q f1 f2 : Nat → Int32) : Int32 := jmax (-(q 2)) (jmin (q 2) ((f1 2 * f2 1 - f2 2 * f1 1) / (f1 1 + f2 1)))
def evQ (q f1 f2 : Nat → Int32) : Nat → Int32 := upd (upd q 5 (q 5 + flwF q f1 f2)) 4 (q 4 + jabs (flwF q f1 f2))
def debtF (q : Nat → Int32) (x y : Int32) : Int32 := if x = q 1 ∧ y = q 0 then q 5 else if x = q 0 ∧ y = q 1 then -(q 5) else 0
set_option maxRecDepth 100000 in
set_option maxHeartbeats 4000000 in
theorem c_X1_copy (l : Launch) {z0 n : Nat} {D : va_G} {cy : Nat → ClassId} {ad : Nat → Nat} {g : Nat → va_E} {k k2 : Nat} {f f2 : Nat → Int32} (hk : vAt n g k (cP f)) (hk2 : vAt n g k2 (cP f2)) (hne : k2 ≠ k) (hb : isB (f2 3)) : Ct0 l yX1_copy cX1_copy 2 none 0 0 z0 D cy n ad g [.ref (ad k), .ref (ad k2)] none (va_up g k (cP f2)) := by
  refine ct_of (by decide +kernel) 0 [some (.ref (ad k)), some (.ref (ad k2))] (Nat.le_of_ble_eq_true rfl) rfl ?_
  intro p e s m below meth c X hr hlk hnm
  refine vV.gg (va_up_eta _ _ _ hk.2).symm ?_
  refine v_aload0 X dX1_copy_0 rfl ?_
  refine v_aload1 X dX1_copy_1 rfl ?_
  refine gf_X1_7 X dX1_copy_2 (hk2.ne hne) ?_
  refine pf_X1_7 X dX1_copy_5 hk.up ?_
  refine vV.gg (va_up_up _ _ _ _) ?_
  refine v_aload0 X dX1_copy_8 rfl ?_
  refine v_aload1 X dX1_copy_9 rfl ?_
  refine gf_X1_13 X dX1_copy_10 (hk2.ne hne) ?_
  refine pf_X1_13 X dX1_copy_13 hk.up ?_
  refine vV.gg (va_up_up _ _ _ _) ?_
  refine v_aload0 X dX1_copy_16 rfl ?_
  refine v_aload1 X dX1_copy_17 rfl ?_
  refine gf_X1_16 X dX1_copy_18 (hk2.ne hne) ?_
  refine pf_X1_16 X dX1_copy_21 hk.up ?_
  refine vV.gg (va_up_up _ _ _ _) ?_
  refine v_aload0 X dX1_copy_24 rfl ?_
  refine v_aload1 X dX1_copy_25 rfl ?_
  refine gf_X1_19 X dX1_copy_26 (hk2.ne hne) ?_
  refine pf_X1_19 X dX1_copy_29 (isB_n hb) (isB_f hb) hk.up ?_
  refine vV.gg (va_up_up _ _ _ _) ?_
  refine v_aload0 X dX1_copy_32 rfl ?_
  refine v_aload1 X dX1_copy_33 rfl ?_
  refine gf_X1_23 X dX1_copy_34 (hk2.ne hne) ?_
  refine pf_X1_23 X dX1_copy_37 hk.up ?_
  refine vV.gg (va_up_up _ _ _ _) ?_
  refine v_aload0 X dX1_copy_40 rfl ?_
  refine v_aload1 X dX1_copy_41 rfl ?_
  refine gf_X1_26 X dX1_copy_42 (hk2.ne hne) ?_
  refine pf_X1_26 X dX1_copy_45 hk.up ?_
  refine vV.gg (va_up_up _ _ _ _) ?_
  exact v_vret X hr hlk dX1_copy_48 ⟨rfl, rfl, rfl, rfl⟩
set_option maxRecDepth 100000 in
set_option maxHeartbeats 4000000 in
theorem c_X1_evenOut (l : Launch) {z0 n : Nat} {D : va_G} {cy : Nat → ClassId} {ad : Nat → Nat} {g : Nat → va_E} {k k1 k2 : Nat} {q f1 f2 : Nat → Int32} (hk : vAt n g k (cP q)) (hk1 : vAt n g k1 (cH f1)) (hk2 : vAt n g k2 (cH f2)) (h1 : k ≠ k1) (h2 : k ≠ k2) (h3 : k2 ≠ k1) (hb : 0 < f1 1 + f2 1) : Ct0 l yX1_evenOut cX1_evenOut 6 none 1 40 z0 D cy n ad g [.ref (ad k), .ref (ad k1), .ref (ad k2)] none (va_up (va_up (va_up g k1 (cH (upd f1 2 (f1 2 - flwF q f1 f2)))) k2 (cH (upd f2 2 (f2 2 + flwF q f1 f2)))) k (cP (evQ q f1 f2))) := by
  refine ct_of (by decide +kernel) 3 [some (.ref (ad k)), some (.ref (ad k1)), some (.ref (ad k2)), none, none, none] (Nat.le_of_ble_eq_true rfl) rfl ?_
  intro p e s m below meth c X hr hlk hnm
  refine v_aload1 X dX1_evenOut_0 rfl ?_
  refine gf_X1_29 X dX1_evenOut_1 hk1 ?_
  refine v_aload2 X dX1_evenOut_4 rfl ?_
  refine gf_X1_29 X dX1_evenOut_5 hk2 ?_
  refine v_iadd X dX1_evenOut_8 ?_
  refine v_istore3 X rfl (Nat.le_of_ble_eq_true rfl) dX1_evenOut_9 ?_
  refine v_iload3 X dX1_evenOut_10 rfl ?_
  refine v_if_gt (tgt := 15) X dX1_evenOut_11 (by decide) (fun hc => ?_) (fun hc => ?_)
  · refine v_aload1 X dX1_evenOut_15 rfl ?_
    refine gf_X1_34 X dX1_evenOut_16 hk1 ?_
    refine v_aload2 X dX1_evenOut_19 rfl ?_
    refine gf_X1_29 X dX1_evenOut_20 hk2 ?_
    refine v_imul X dX1_evenOut_23 ?_
    refine v_aload2 X dX1_evenOut_24 rfl ?_
    refine gf_X1_34 X dX1_evenOut_25 hk2 ?_
    refine v_aload1 X dX1_evenOut_28 rfl ?_
    refine gf_X1_29 X dX1_evenOut_29 hk1 ?_
    refine v_imul X dX1_evenOut_32 ?_
    refine v_isub X dX1_evenOut_33 ?_
    refine v_iload3 X dX1_evenOut_34 rfl ?_
    refine v_idiv X dX1_evenOut_35 (fun h => by rw [h] at hb; exact absurd hb (by decide)) ?_
    refine v_istore4 X rfl (Nat.le_of_ble_eq_true rfl) dX1_evenOut_36 ?_
    refine v_aload0 X dX1_evenOut_38 rfl ?_
    refine gf_X1_16 X dX1_evenOut_39 hk ?_
    refine v_ineg X dX1_evenOut_42 ?_
    refine v_aload0 X dX1_evenOut_43 rfl ?_
    refine gf_X1_16 X dX1_evenOut_44 hk ?_
    refine v_iload X dX1_evenOut_47 rfl ?_
    refine v_mmin X dX1_evenOut_49 wm_X1_37 wt_J9_min_7cf53 wz_J9 wc_J9_min_7cf53 ⟨(Nat.le_of_ble_eq_true rfl), (Nat.le_of_ble_eq_true rfl), (Nat.le_of_ble_eq_true rfl), (Nat.le_of_ble_eq_true rfl)⟩ ?_
    refine v_mmax X dX1_evenOut_52 wm_X1_43 wt_J9_max_7cf53 wz_J9 wc_J9_max_7cf53 ⟨(Nat.le_of_ble_eq_true rfl), (Nat.le_of_ble_eq_true rfl), (Nat.le_of_ble_eq_true rfl), (Nat.le_of_ble_eq_true rfl)⟩ ?_
    refine v_istore5 X rfl (Nat.le_of_ble_eq_true rfl) dX1_evenOut_55 ?_
    refine v_aload1 X dX1_evenOut_57 rfl ?_
    refine v_dup X dX1_evenOut_58 rfl ?_
    refine gf_X1_34 X dX1_evenOut_59 hk1 ?_
    refine v_iload X dX1_evenOut_62 rfl ?_
    refine v_isub X dX1_evenOut_64 ?_
    refine pf_X1_34 X dX1_evenOut_65 hk1 ?_
    refine v_aload2 X dX1_evenOut_68 rfl ?_
    refine v_dup X dX1_evenOut_69 rfl ?_
    refine gf_X1_34 X dX1_evenOut_70 (hk2.ne h3) ?_
    refine v_iload X dX1_evenOut_73 rfl ?_
    refine v_iadd X dX1_evenOut_75 ?_
    refine pf_X1_34 X dX1_evenOut_76 (hk2.ne h3) ?_
    refine v_aload0 X dX1_evenOut_79 rfl ?_
    refine v_dup X dX1_evenOut_80 rfl ?_
    refine gf_X1_26 X dX1_evenOut_81 ((hk.ne h1).ne h2) ?_
    refine v_iload X dX1_evenOut_84 rfl ?_
    refine v_iadd X dX1_evenOut_86 ?_
    refine pf_X1_26 X dX1_evenOut_87 ((hk.ne h1).ne h2) ?_
    refine v_aload0 X dX1_evenOut_90 rfl ?_
    refine v_dup X dX1_evenOut_91 rfl ?_
    refine gf_X1_23 X dX1_evenOut_92 ((hk.ne h1).ne h2).up ?_
    refine v_iload X dX1_evenOut_95 rfl ?_
    refine v_mabs X dX1_evenOut_97 wm_X1_46 wt_J9_abs_0f7a4 wz_J9 wc_J9_abs_0f7a4 ⟨(Nat.le_of_ble_eq_true rfl), (Nat.le_of_ble_eq_true rfl), (Nat.le_of_ble_eq_true rfl), (Nat.le_of_ble_eq_true rfl)⟩ ?_
    refine v_iadd X dX1_evenOut_100 ?_
    refine pf_X1_23 X dX1_evenOut_101 ((hk.ne h1).ne h2).up ?_
    refine vV.gg (va_up_up _ _ _ _) ?_
    exact v_vret X hr hlk dX1_evenOut_104 ⟨rfl, rfl, rfl, rfl⟩
  · exact absurd hb hc
set_option maxRecDepth 100000 in
set_option maxHeartbeats 4000000 in
theorem c_X1_debt (l : Launch) {z0 n : Nat} {D : va_G} {cy : Nat → ClassId} {ad : Nat → Nat} {g : Nat → va_E} {k : Nat} {q : Nat → Int32} {x y : Int32} (hk : vAt n g k (cP q)) : Ct0 l yX1_debt cX1_debt 3 (some FieldType.int) 0 0 z0 D cy n ad g [.ref (ad k), .int x, .int y] (some (.int (debtF q x y))) g := by
  refine ct_of (by decide +kernel) 0 [some (.ref (ad k)), some (.int x), some (.int y)] (Nat.le_of_ble_eq_true rfl) rfl ?_
  intro p e s m below meth c X hr hlk hnm
  refine v_iload1 X dX1_debt_0 rfl ?_
  refine v_aload0 X dX1_debt_1 rfl ?_
  refine gf_X1_13 X dX1_debt_2 hk ?_
  refine v_icmp_ne (tgt := 21) X dX1_debt_5 (by decide) (fun h1 => ?_) (fun h1 => ?_)
  · refine v_iload1 X dX1_debt_21 rfl ?_
    refine v_aload0 X dX1_debt_22 rfl ?_
    refine gf_X1_7 X dX1_debt_23 hk ?_
    refine v_icmp_ne (tgt := 45) X dX1_debt_26 (by decide) (fun h2 => ?_) (fun h2 => ?_)
    · refine v_ico (v := 0) X dX1_debt_45 (by decide) ?_
      exact v_iret X hr hlk dX1_debt_46 ⟨by unfold debtF; rw [if_neg (fun h => h1 h.1), if_neg (fun h => h2 h.1)], rfl, rfl, rfl⟩
    · refine v_iload2 X dX1_debt_29 rfl ?_
      refine v_aload0 X dX1_debt_30 rfl ?_
      refine gf_X1_13 X dX1_debt_31 hk ?_
      refine v_icmp_ne (tgt := 45) X dX1_debt_34 (by decide) (fun h3 => ?_) (fun h3 => ?_)
      · refine v_ico (v := 0) X dX1_debt_45 (by decide) ?_
        exact v_iret X hr hlk dX1_debt_46 ⟨by unfold debtF; rw [if_neg (fun h => h1 h.1), if_neg (fun h => h3 h.2)], rfl, rfl, rfl⟩
      · refine v_aload0 X dX1_debt_37 rfl ?_
        refine gf_X1_26 X dX1_debt_38 hk ?_
        refine v_ineg X dX1_debt_41 ?_
        refine v_goto (tgt := 46) X dX1_debt_42 (by decide) ?_
        exact v_iret X hr hlk dX1_debt_46 ⟨by unfold debtF; rw [if_neg (fun h => h1 h.1), if_pos ⟨h2, h3⟩], rfl, rfl, rfl⟩
  · refine v_iload2 X dX1_debt_8 rfl ?_
    refine v_aload0 X dX1_debt_9 rfl ?_
    refine gf_X1_7 X dX1_debt_10 hk ?_
    refine v_icmp_ne (tgt := 21) X dX1_debt_13 (by decide) (fun h2 => ?_) (fun h2 => ?_)
    · refine v_iload1 X dX1_debt_21 rfl ?_
      refine v_aload0 X dX1_debt_22 rfl ?_
      refine gf_X1_7 X dX1_debt_23 hk ?_
      refine v_icmp_ne (tgt := 45) X dX1_debt_26 (by decide) (fun h3 => ?_) (fun h3 => ?_)
      · refine v_ico (v := 0) X dX1_debt_45 (by decide) ?_
        exact v_iret X hr hlk dX1_debt_46 ⟨by unfold debtF; rw [if_neg (fun h => h2 h.2), if_neg (fun h => h3 h.1)], rfl, rfl, rfl⟩
      · refine v_iload2 X dX1_debt_29 rfl ?_
        refine v_aload0 X dX1_debt_30 rfl ?_
        refine gf_X1_13 X dX1_debt_31 hk ?_
        refine v_icmp_ne (tgt := 45) X dX1_debt_34 (by decide) (fun h4 => ?_) (fun h4 => ?_)
        · refine v_ico (v := 0) X dX1_debt_45 (by decide) ?_
          exact v_iret X hr hlk dX1_debt_46 ⟨by unfold debtF; rw [if_neg (fun h => h2 h.2), if_neg (fun h => h4 h.2)], rfl, rfl, rfl⟩
        · refine v_aload0 X dX1_debt_37 rfl ?_
          refine gf_X1_26 X dX1_debt_38 hk ?_
          refine v_ineg X dX1_debt_41 ?_
          refine v_goto (tgt := 46) X dX1_debt_42 (by decide) ?_
          exact v_iret X hr hlk dX1_debt_46 ⟨by unfold debtF; rw [if_neg (fun h => h2 h.2), if_pos ⟨h3, h4⟩], rfl, rfl, rfl⟩
    · refine v_aload0 X dX1_debt_16 rfl ?_
      refine gf_X1_26 X dX1_debt_17 hk ?_
      exact v_iret X hr hlk dX1_debt_20 ⟨by unfold debtF; rw [if_pos ⟨h1, h2⟩], rfl, rfl, rfl⟩
set_option maxRecDepth 100000 in
set_option maxHeartbeats 4000000 in
theorem c_X1_fact (l : Launch) {z0 n : Nat} {D : va_G} {cy : Nat → ClassId} {ad : Nat → Nat} {g : Nat → va_E} {k : Nat} {f : Nat → Int32} {j : Nat} (hj : j < 5) (hk : vAt n g k (cP f)) (hb : isB (f 3)) : Ct0 l yX1_fact cX1_fact 2 (some FieldType.int) 0 0 z0 D cy n ad g [.ref (ad k), .int (nI j)] (some (.int (f j))) g := by
  refine ct_of (by decide +kernel) 0 [some (.ref (ad k)), some (.int (nI j))] (Nat.le_of_ble_eq_true rfl) rfl ?_
  intro p e s m below meth c X hr hlk hnm
  refine v_iload1 X dX1_fact_0 rfl ?_
  match j, hj with
  | 0, _ =>
    refine v_tabIn (off := 31) (tgt := 32) X dX1_fact_1 (by decide) (by decide) (by decide) (by decide) ?_
    refine v_aload0 X dX1_fact_32 rfl ?_
    refine gf_X1_7 X dX1_fact_33 hk ?_
    exact v_iret X hr hlk dX1_fact_36 ⟨rfl, rfl, rfl, rfl⟩
  | 1, _ =>
    refine v_tabIn (off := 36) (tgt := 37) X dX1_fact_1 (by decide) (by decide) (by decide) (by decide) ?_
    refine v_aload0 X dX1_fact_37 rfl ?_
    refine gf_X1_13 X dX1_fact_38 hk ?_
    exact v_iret X hr hlk dX1_fact_41 ⟨rfl, rfl, rfl, rfl⟩
  | 2, _ =>
    refine v_tabIn (off := 41) (tgt := 42) X dX1_fact_1 (by decide) (by decide) (by decide) (by decide) ?_
    refine v_aload0 X dX1_fact_42 rfl ?_
    refine gf_X1_16 X dX1_fact_43 hk ?_
    exact v_iret X hr hlk dX1_fact_46 ⟨rfl, rfl, rfl, rfl⟩
  | 3, _ =>
    refine v_tabIn (off := 46) (tgt := 47) X dX1_fact_1 (by decide) (by decide) (by decide) (by decide) ?_
    refine v_aload0 X dX1_fact_47 rfl ?_
    refine gf_X1_19 X dX1_fact_48 hk ?_
    refine v_if_eq (tgt := 58) X dX1_fact_51 (by decide) (fun hc => ?_) (fun hc => ?_)
    · refine v_ico (v := 0) X dX1_fact_58 (by decide) ?_
      exact v_iret X hr hlk dX1_fact_59 ⟨by rw [hc], rfl, rfl, rfl⟩
    · refine v_ico (v := 1) X dX1_fact_54 (by decide) ?_
      refine v_goto (tgt := 59) X dX1_fact_55 (by decide) ?_
      exact v_iret X hr hlk dX1_fact_59 ⟨by rw [hb.resolve_left hc], rfl, rfl, rfl⟩
  | 4, _ =>
    refine v_tabOut (tgt := 60) X dX1_fact_1 (by decide) (by decide) ?_
    refine v_aload0 X dX1_fact_60 rfl ?_
    refine gf_X1_23 X dX1_fact_61 hk ?_
    exact v_iret X hr hlk dX1_fact_64 ⟨rfl, rfl, rfl, rfl⟩
  | j + 5, h => exact absurd h (by omega)
