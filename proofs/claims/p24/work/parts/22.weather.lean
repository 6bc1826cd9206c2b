/-! Weather, by contracts -/
def WX (cy : Nat → ClassId) (ad : Nat → Nat) (n : Nat) (g : Nat → va_E) (ra le : Nat → Int32) : Prop := vAt n g 1 (.inr (3, [.ref (ad 2), .ref (ad 3)])) ∧ vAt n g 2 (.inl (cy 0, 28, .inl ra)) ∧ vAt n g 3 (.inl (cy 0, 28, .inl le))
theorem gV_W {cy : Nat → ClassId} {ad : Nat → Nat} {n B : Nat} {S : tS} {g0 : Nat → va_E} {ra le : Nat → Int32} (h : 4 ≤ B) (w : WX cy ad n g0 ra le) : WX cy ad n (gV cy ad B S g0) ra le := ⟨gV_o (by unfold gOut; omega) w.1, gV_o (by unfold gOut; omega) w.2.1, gV_o (by unfold gOut; omega) w.2.2⟩
set_option maxRecDepth 100000 in
set_option maxHeartbeats 4000000 in
theorem c_J9_floorMod (l : Launch) {z0 n : Nat} {D : va_G} {cy : Nat → ClassId} {ad : Nat → Nat} {g : Nat → va_E} {d : Nat} (hd : d < 2 ^ 31) : Ct0 l yJ9_floorMod_7cf53 cJ9_floorMod_7cf53 3 (some FieldType.int) 0 0 z0 D cy n ad g [.int (nI d), .int 28] (some (.int (nI (d % 28)))) g := by
  refine ct_ofF (by decide +kernel) 1 [some (.int (nI d)), some (.int 28), none] (Nat.le_of_ble_eq_true rfl) rfl ?_
  intro p e s m below meth c X hr hlk hnm
  refine v_iload0 X dJ9_floorMod_7cf53_0 rfl ?_
  refine v_iload1 X dJ9_floorMod_7cf53_1 rfl ?_
  refine v_irem X dJ9_floorMod_7cf53_2 (by decide) ?_
  refine vV.top (congrArg Value.int (rem28 hd)) ?_
  refine v_istore2 X rfl (Nat.le_of_ble_eq_true rfl) dJ9_floorMod_7cf53_3 ?_
  refine v_iload0 X dJ9_floorMod_7cf53_4 rfl ?_
  refine v_iload1 X dJ9_floorMod_7cf53_5 rfl ?_
  refine v_ixor X dJ9_floorMod_7cf53_6 ?_
  refine v_if_ge (tgt := 18) X dJ9_floorMod_7cf53_7 (by decide) (fun hc => ?_) (fun hc => ?_)
  · refine v_iload2 X dJ9_floorMod_7cf53_18 rfl ?_
    exact v_iret X hr hlk dJ9_floorMod_7cf53_19 ⟨rfl, rfl, rfl, rfl⟩
  · exact absurd (xor28 hd) hc
set_option maxRecDepth 100000 in
set_option maxHeartbeats 4000000 in
theorem c_X3_change (l : Launch) {z0 n : Nat} {D : va_G} {cy : Nat → ClassId} {ad : Nat → Nat} {g : Nat → va_E} {ra le : Nat → Int32} {j : Nat} {x y : Int32} (hw : WX cy ad n g ra le) (hj : j < 28) : Ct0 l yX3_change cX3_change 4 none 0 0 z0 D cy n ad g [.ref (ad 1), .int (nI j), .int x, .int y] none (va_up (va_up g 2 (.inl (cy 0, 28, .inl (upd ra j x)))) 3 (.inl (cy 0, 28, .inl (upd le j y)))) := by
  refine ct_of (by decide +kernel) 0 [some (.ref (ad 1)), some (.int (nI j)), some (.int x), some (.int y)] (Nat.le_of_ble_eq_true rfl) rfl ?_
  intro p e s m below meth c X hr hlk hnm
  refine v_aload0 X dX3_change_0 rfl ?_
  refine gf_X3_9 X dX3_change_1 hw.1 ?_
  refine v_iload1 X dX3_change_4 rfl ?_
  refine v_iload2 X dX3_change_5 rfl ?_
  refine v_iast X dX3_change_6 hw.2.1 rfl hj (by decide) ?_
  refine v_aload0 X dX3_change_7 rfl ?_
  refine gf_X3_13 X dX3_change_8 (hw.1.ne (by decide)) ?_
  refine v_iload1 X dX3_change_11 rfl ?_
  refine v_iload3 X dX3_change_12 rfl ?_
  refine v_iast X dX3_change_13 (hw.2.2.ne (by decide)) rfl hj (by decide) ?_
  exact v_vret X hr hlk dX3_change_14 ⟨rfl, rfl, rfl, rfl⟩
set_option maxRecDepth 100000 in
set_option maxHeartbeats 4000000 in
theorem c_X3_code (l : Launch) {z0 n : Nat} {D : va_G} {cy : Nat → ClassId} {ad : Nat → Nat} {g : Nat → va_E} {ra le : Nat → Int32} {j : Nat} (hw : WX cy ad n g ra le) (hj : j < 28) : Ct0 l yX3_code cX3_code 2 (some FieldType.int) 0 0 z0 D cy n ad g [.ref (ad 1), .int (nI j)] (some (.int (10 * ra j + le j))) g := by
  refine ct_of (by decide +kernel) 0 [some (.ref (ad 1)), some (.int (nI j))] (Nat.le_of_ble_eq_true rfl) rfl ?_
  intro p e s m below meth c X hr hlk hnm
  refine v_bip (v := 10) X dX3_code_0 (by decide) ?_
  refine v_aload0 X dX3_code_2 rfl ?_
  refine gf_X3_9 X dX3_code_3 hw.1 ?_
  refine v_iload1 X dX3_code_6 rfl ?_
  refine v_iald X dX3_code_7 hw.2.1 rfl hj (by decide) ?_
  refine v_imul X dX3_code_8 ?_
  refine v_aload0 X dX3_code_9 rfl ?_
  refine gf_X3_13 X dX3_code_10 hw.1 ?_
  refine v_iload1 X dX3_code_13 rfl ?_
  refine v_iald X dX3_code_14 hw.2.2 rfl hj (by decide) ?_
  refine v_iadd X dX3_code_15 ?_
  exact v_iret X hr hlk dX3_code_16 ⟨rfl, rfl, rfl, rfl⟩
set_option maxRecDepth 100000 in
set_option maxHeartbeats 4000000 in
theorem c_X3_rainOn (l : Launch) {z0 n : Nat} {D : va_G} {cy : Nat → ClassId} {ad : Nat → Nat} {g : Nat → va_E} {ra le : Nat → Int32} {d : Nat} (hw : WX cy ad n g ra le) (hd : d < 2 ^ 31) : Ct0 l yX3_rainOn cX3_rainOn 2 (some FieldType.int) 1 22 z0 D cy n ad g [.ref (ad 1), .int (nI d)] (some (.int (ra (d % 28)))) g := by
  refine ct_of (by decide +kernel) 0 [some (.ref (ad 1)), some (.int (nI d))] (Nat.le_of_ble_eq_true rfl) rfl ?_
  intro p e s m below meth c X hr hlk hnm
  refine v_aload0 X dX3_rainOn_0 rfl ?_
  refine gf_X3_9 X dX3_rainOn_1 hw.1 ?_
  refine v_iload1 X dX3_rainOn_4 rfl ?_
  refine v_bip (v := 28) X dX3_rainOn_5 (by decide) ?_
  refine cd_X3_16 X dX3_rainOn_7 (c_J9_floorMod l hd) (Nat.le_of_ble_eq_true rfl) ⟨(Nat.le_of_ble_eq_true rfl), (Nat.le_of_ble_eq_true rfl), (Nat.le_of_ble_eq_true rfl), (Nat.le_of_ble_eq_true rfl)⟩ ?_
  refine v_iald X dX3_rainOn_10 hw.2.1 rfl (Nat.mod_lt _ (by decide)) (by decide) ?_
  exact v_iret X hr hlk dX3_rainOn_11 ⟨rfl, rfl, rfl, rfl⟩
set_option maxRecDepth 100000 in
set_option maxHeartbeats 4000000 in
theorem c_X3_leavesOn (l : Launch) {z0 n : Nat} {D : va_G} {cy : Nat → ClassId} {ad : Nat → Nat} {g : Nat → va_E} {ra le : Nat → Int32} {d : Nat} (hw : WX cy ad n g ra le) (hd : d < 2 ^ 31) : Ct0 l yX3_leavesOn cX3_leavesOn 2 (some FieldType.int) 1 22 z0 D cy n ad g [.ref (ad 1), .int (nI d)] (some (.int (le (d % 28)))) g := by
  refine ct_of (by decide +kernel) 0 [some (.ref (ad 1)), some (.int (nI d))] (Nat.le_of_ble_eq_true rfl) rfl ?_
  intro p e s m below meth c X hr hlk hnm
  refine v_aload0 X dX3_leavesOn_0 rfl ?_
  refine gf_X3_13 X dX3_leavesOn_1 hw.1 ?_
  refine v_iload1 X dX3_leavesOn_4 rfl ?_
  refine v_bip (v := 28) X dX3_leavesOn_5 (by decide) ?_
  refine cd_X3_16 X dX3_leavesOn_7 (c_J9_floorMod l hd) (Nat.le_of_ble_eq_true rfl) ⟨(Nat.le_of_ble_eq_true rfl), (Nat.le_of_ble_eq_true rfl), (Nat.le_of_ble_eq_true rfl), (Nat.le_of_ble_eq_true rfl)⟩ ?_
  refine v_iald X dX3_leavesOn_10 hw.2.2 rfl (Nat.mod_lt _ (by decide)) (by decide) ?_
  exact v_iret X hr hlk dX3_leavesOn_11 ⟨rfl, rfl, rfl, rfl⟩
def dryS (ra : Nat → Int32) (i : Nat) (s : Int32 × Int32) : Int32 × Int32 := (jmax s.1 (if 0 < ra (i % 28) then 0 else s.2 + 1), if 0 < ra (i % 28) then 0 else s.2 + 1)
