/-! the class's guards -/
abbrev eI : String := "java/lang/IndexOutOfBoundsException"
abbrev eA : String := "java/lang/IllegalArgumentException"
abbrev eS : String := "java/lang/IllegalStateException"
abbrev eN : List String := ["java/lang/RuntimeException", "java/lang/Exception"]
set_option maxRecDepth 100000 in
set_option maxHeartbeats 4000000 in
theorem c_needIndex (l : Launch) {z0 n : Nat} {D : va_G} {cy : Nat → ClassId} {ad : Nat → Nat} {g : Nat → va_E} {x : Int32} (hx : x ≠ 0) : Ct0 l yX4_needIndex cX4_needIndex 1 none 6 100 z0 D cy n ad g [.int x] none g := by
  refine ct_of (by decide +kernel) 0 [some (.int x)] (Nat.le_of_ble_eq_true rfl) rfl ?_
  intro p e s m below meth c X hr hlk hnm
  refine v_iload0 X dX4_needIndex_0 rfl ?_
  refine v_if_ne (tgt := 14) X dX4_needIndex_1 (by decide) (fun _ => ?_) (fun h => absurd h hx)
  exact v_vret X hr hlk dX4_needIndex_14 ⟨rfl, rfl, rfl, rfl⟩
set_option maxRecDepth 100000 in
set_option maxHeartbeats 4000000 in
theorem c_needArgument (l : Launch) {z0 n : Nat} {D : va_G} {cy : Nat → ClassId} {ad : Nat → Nat} {g : Nat → va_E} {x : Int32} (hx : x ≠ 0) : Ct0 l yX4_needArgument cX4_needArgument 1 none 6 100 z0 D cy n ad g [.int x] none g := by
  refine ct_of (by decide +kernel) 0 [some (.int x)] (Nat.le_of_ble_eq_true rfl) rfl ?_
  intro p e s m below meth c X hr hlk hnm
  refine v_iload0 X dX4_needArgument_0 rfl ?_
  refine v_if_ne (tgt := 14) X dX4_needArgument_1 (by decide) (fun _ => ?_) (fun h => absurd h hx)
  exact v_vret X hr hlk dX4_needArgument_14 ⟨rfl, rfl, rfl, rfl⟩
set_option maxRecDepth 100000 in
set_option maxHeartbeats 4000000 in
theorem c_needState (l : Launch) {z0 n : Nat} {D : va_G} {cy : Nat → ClassId} {ad : Nat → Nat} {g : Nat → va_E} {x : Int32} (hx : x ≠ 0) : Ct0 l yX4_needState cX4_needState 1 none 6 100 z0 D cy n ad g [.int x] none g := by
  refine ct_of (by decide +kernel) 0 [some (.int x)] (Nat.le_of_ble_eq_true rfl) rfl ?_
  intro p e s m below meth c X hr hlk hnm
  refine v_iload0 X dX4_needState_0 rfl ?_
  refine v_if_ne (tgt := 14) X dX4_needState_1 (by decide) (fun _ => ?_) (fun h => absurd h hx)
  exact v_vret X hr hlk dX4_needState_14 ⟨rfl, rfl, rfl, rfl⟩
/-- the class's object -/
def RO (ad : Nat → Nat) (n : Nat) (g : Nat → va_E) : Prop := 4 + 25 ≤ n ∧ vAt n g 0 (.inr (4, [.ref (ad 1), .ref (ad 4), .ref (ad 29)]))
set_option maxRecDepth 100000 in
set_option maxHeartbeats 4000000 in
theorem c_needHouse (l : Launch) {z0 n : Nat} {D : va_G} {cy : Nat → ClassId} {ad : Nat → Nat} {x : Int32} {S : tS} {g0 : Nat → va_E} (hR : RO ad n (gV cy ad 4 S g0)) (hx : hasB (sN S) x = 1) : Ct0 l yX4_needHouse cX4_needHouse 2 none 6 100 z0 D cy n ad (gV cy ad 4 S g0) [.ref (ad 0), .int x] none (gV cy ad 4 S g0) := by
  refine ct_of (by decide +kernel) 0 [some (.ref (ad 0)), some (.int x)] (Nat.le_of_ble_eq_true rfl) rfl ?_
  intro p e s m below meth c X hr hlk hnm
  refine v_aload0 X dX4_needHouse_0 rfl ?_
  refine gf_X4_21 X dX4_needHouse_1 hR.2 ?_
  refine v_iload1 X dX4_needHouse_4 rfl ?_
  refine cd_X4_62 X dX4_needHouse_5 (c_X2_hasHouse l hR.1) (gV_v hR.1) rfl (Nat.le_of_ble_eq_true rfl) ⟨(Nat.le_of_ble_eq_true rfl), (Nat.le_of_ble_eq_true rfl), (Nat.le_of_ble_eq_true rfl), (Nat.le_of_ble_eq_true rfl)⟩ ?_
  rw [hx]
  refine v_if_ne (tgt := 21) X dX4_needHouse_8 (by decide) (fun _ => ?_) (fun h => absurd h (by decide))
  exact v_vret X hr hlk dX4_needHouse_21 ⟨rfl, rfl, rfl, rfl⟩
set_option maxRecDepth 100000 in
set_option maxHeartbeats 4000000 in
theorem c_needPipe (l : Launch) {z0 n : Nat} {D : va_G} {cy : Nat → ClassId} {ad : Nat → Nat} {x : Int32} {S : tS} {g0 : Nat → va_E} (hR : RO ad n (gV cy ad 4 S g0)) (hx : hasB (sP S) x = 1) : Ct0 l yX4_needPipe cX4_needPipe 2 none 6 100 z0 D cy n ad (gV cy ad 4 S g0) [.ref (ad 0), .int x] none (gV cy ad 4 S g0) := by
  refine ct_of (by decide +kernel) 0 [some (.ref (ad 0)), some (.int x)] (Nat.le_of_ble_eq_true rfl) rfl ?_
  intro p e s m below meth c X hr hlk hnm
  refine v_aload0 X dX4_needPipe_0 rfl ?_
  refine gf_X4_21 X dX4_needPipe_1 hR.2 ?_
  refine v_iload1 X dX4_needPipe_4 rfl ?_
  refine cd_X4_176 X dX4_needPipe_5 (c_X2_hasPipe l hR.1) (gV_v hR.1) rfl (Nat.le_of_ble_eq_true rfl) ⟨(Nat.le_of_ble_eq_true rfl), (Nat.le_of_ble_eq_true rfl), (Nat.le_of_ble_eq_true rfl), (Nat.le_of_ble_eq_true rfl)⟩ ?_
  rw [hx]
  refine v_if_ne (tgt := 21) X dX4_needPipe_8 (by decide) (fun _ => ?_) (fun h => absurd h (by decide))
  exact v_vret X hr hlk dX4_needPipe_21 ⟨rfl, rfl, rfl, rfl⟩
section CX
variable {p : Program} {l : Launch} {e : Env} {R : Room} {s : State} {m : MethodId} {args : Array Value} {below : List Frame} {meth : Method} {c : Code}
variable {cc : ByteArray} {nL z0 n pc : Nat} {D : va_G} {cy : Nat → ClassId} {ad : Nat → Nat} {g : Nat → va_E} {L : List (Option Value)} {st : List Value}
end CX
/-! within -/
def IN (x a b : Int32) : Prop := a ≤ x ∧ x ≤ b
def inB (x a b : Int32) : Int32 := if x < a then 0 else if b < x then 0 else 1
theorem inB_1 {x a b : Int32} (h : IN x a b) : inB x a b = 1 := by
  unfold inB
  rw [if_neg (Int32.not_lt.mpr h.1), if_neg (Int32.not_lt.mpr h.2)]
theorem inB_0 {x a b : Int32} (h : ¬ IN x a b) : inB x a b = 0 := by
  unfold inB
  by_cases h1 : x < a
  · rw [if_pos h1]
  · rw [if_neg h1, if_pos (Int32.not_le.mp (fun h2 => h ⟨Int32.not_lt.mp h1, h2⟩))]
set_option maxRecDepth 100000 in
set_option maxHeartbeats 4000000 in
theorem c_isWithin (l : Launch) {z0 n : Nat} {D : va_G} {cy : Nat → ClassId} {ad : Nat → Nat} {g : Nat → va_E} {x a b : Int32} : Ct0 l yX4_isWithin cX4_isWithin 3 (some FieldType.boolean) 0 0 z0 D cy n ad g [.int x, .int a, .int b] (some (.int (inB x a b))) g := by
  refine ct_of (by decide +kernel) 0 [some (.int x), some (.int a), some (.int b)] (Nat.le_of_ble_eq_true rfl) rfl ?_
  intro p e s m below meth c X hr hlk hnm
  refine v_iload0 X dX4_isWithin_0 rfl ?_
  refine v_iload1 X dX4_isWithin_1 rfl ?_
  refine v_icmp_lt (tgt := 14) X dX4_isWithin_2 (by decide) (fun h1 => ?_) (fun h1 => ?_)
  · refine v_ico (v := 0) X dX4_isWithin_14 (by decide) ?_
    exact v_zret X hr hlk dX4_isWithin_15 rfl ⟨by unfold inB; rw [if_pos h1], rfl, rfl, rfl⟩
  · refine v_iload0 X dX4_isWithin_5 rfl ?_
    refine v_iload2 X dX4_isWithin_6 rfl ?_
    refine v_icmp_gt (tgt := 14) X dX4_isWithin_7 (by decide) (fun h2 => ?_) (fun h2 => ?_)
    · refine v_ico (v := 0) X dX4_isWithin_14 (by decide) ?_
      exact v_zret X hr hlk dX4_isWithin_15 rfl ⟨by unfold inB; rw [if_neg h1, if_pos h2], rfl, rfl, rfl⟩
    · refine v_ico (v := 1) X dX4_isWithin_10 (by decide) ?_
      refine v_goto (tgt := 15) X dX4_isWithin_11 (by decide) ?_
      exact v_zret X hr hlk dX4_isWithin_15 rfl ⟨by unfold inB; rw [if_neg h1, if_neg h2], rfl, rfl, rfl⟩
