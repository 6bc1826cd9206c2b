/-! the class's guards -/
abbrev eI : String := "java/lang/IndexOutOfBoundsException"
abbrev eA : String := "java/lang/IllegalArgumentException"
abbrev eS : String := "java/lang/IllegalStateException"
abbrev eN : List String := ["java/lang/RuntimeException", "java/lang/Exception"]
theorem eN_fit : ∀ n ∈ eN, Bundle.fit n = true := by decide +kernel
theorem eI_g : ∀ w ∈ (vx_atS RX4 173 eI eN).filter goodWord, w ∈ UW := by decide +kernel
theorem eI_n : ∀ w ∈ (vx_atS RX4 173 eI eN).filter (fun w => !goodWord w), (∃ q ∈ xCast, w = .castable q.1 q.2) ∨ ∃ x ∈ xDecl, w = .declares x := by decide +kernel
theorem eI_o : ∀ w ∈ Cond.classLink RX4 169 eI :: Cond.initialized eI :: vx_atS RX4 173 eI eN, vx_ot w = true := by decide +kernel
theorem eA_g : ∀ w ∈ (vx_atS RX4 187 eA eN).filter goodWord, w ∈ UW := by decide +kernel
theorem eA_n : ∀ w ∈ (vx_atS RX4 187 eA eN).filter (fun w => !goodWord w), (∃ q ∈ xCast, w = .castable q.1 q.2) ∨ ∃ x ∈ xDecl, w = .declares x := by decide +kernel
theorem eA_o : ∀ w ∈ Cond.classLink RX4 183 eA :: Cond.initialized eA :: vx_atS RX4 187 eA eN, vx_ot w = true := by decide +kernel
theorem eS_g : ∀ w ∈ (vx_atS RX4 192 eS eN).filter goodWord, w ∈ UW := by decide +kernel
theorem eS_n : ∀ w ∈ (vx_atS RX4 192 eS eN).filter (fun w => !goodWord w), (∃ q ∈ xCast, w = .castable q.1 q.2) ∨ ∃ x ∈ xDecl, w = .declares x := by decide +kernel
theorem eS_o : ∀ w ∈ Cond.classLink RX4 188 eS :: Cond.initialized eS :: vx_atS RX4 192 eS eN, vx_ot w = true := by decide +kernel
set_option maxRecDepth 100000 in
set_option maxHeartbeats 4000000 in
theorem x_needIndex (l : Launch) (hst : l.stackTraces = false) {z0 n : Nat} {D : va_G} {cy : Nat → ClassId} {ad : Nat → Nat} {g : Nat → va_E} : CtX l yX4_needIndex cX4_needIndex 1 none 6 100 z0 D cy n ad g [.int 0] eI := by
  refine ctx_of (by decide +kernel) 0 [some (.int 0)] (Nat.le_of_ble_eq_true rfl) rfl ?_
  intro p e s m below meth c X ht hlk
  refine v_iload0 X dX4_needIndex_0 rfl ?_
  refine v_if_ne (tgt := 14) X dX4_needIndex_1 (by decide) (fun h => absurd rfl h) (fun _ => ?_)
  exact v_throwS (text := "number out of its range") X hst (by decide +kernel) eN_fit wk_X4_169 wz_IndexOutOfBoundsException (by decide +kernel) eI_g eI_n eI_o dX4_needIndex_4 dX4_needIndex_7 dX4_needIndex_8 dX4_needIndex_10 dX4_needIndex_13 ht hlk ⟨Nat.le_of_ble_eq_true rfl, Nat.le_of_ble_eq_true rfl, Nat.le_of_ble_eq_true rfl, Nat.le_of_ble_eq_true rfl⟩
set_option maxRecDepth 100000 in
set_option maxHeartbeats 4000000 in
theorem c_needIndex (l : Launch) {z0 n : Nat} {D : va_G} {cy : Nat → ClassId} {ad : Nat → Nat} {g : Nat → va_E} {x : Int32} (hx : x ≠ 0) : Ct0 l yX4_needIndex cX4_needIndex 1 none 6 100 z0 D cy n ad g [.int x] none g := by
  refine ct_of (by decide +kernel) 0 [some (.int x)] (Nat.le_of_ble_eq_true rfl) rfl ?_
  intro p e s m below meth c X hr hlk hnm
  refine v_iload0 X dX4_needIndex_0 rfl ?_
  refine v_if_ne (tgt := 14) X dX4_needIndex_1 (by decide) (fun _ => ?_) (fun h => absurd h hx)
  exact v_vret X hr hlk dX4_needIndex_14 ⟨rfl, rfl, rfl, rfl⟩
set_option maxRecDepth 100000 in
set_option maxHeartbeats 4000000 in
theorem x_needArgument (l : Launch) (hst : l.stackTraces = false) {z0 n : Nat} {D : va_G} {cy : Nat → ClassId} {ad : Nat → Nat} {g : Nat → va_E} : CtX l yX4_needArgument cX4_needArgument 1 none 6 100 z0 D cy n ad g [.int 0] eA := by
  refine ctx_of (by decide +kernel) 0 [some (.int 0)] (Nat.le_of_ble_eq_true rfl) rfl ?_
  intro p e s m below meth c X ht hlk
  refine v_iload0 X dX4_needArgument_0 rfl ?_
  refine v_if_ne (tgt := 14) X dX4_needArgument_1 (by decide) (fun h => absurd rfl h) (fun _ => ?_)
  exact v_throwS (text := "argument out of its range") X hst (by decide +kernel) eN_fit wk_X4_183 wz_IllegalArgumentException (by decide +kernel) eA_g eA_n eA_o dX4_needArgument_4 dX4_needArgument_7 dX4_needArgument_8 dX4_needArgument_10 dX4_needArgument_13 ht hlk ⟨Nat.le_of_ble_eq_true rfl, Nat.le_of_ble_eq_true rfl, Nat.le_of_ble_eq_true rfl, Nat.le_of_ble_eq_true rfl⟩
set_option maxRecDepth 100000 in
set_option maxHeartbeats 4000000 in
theorem c_needArgument (l : Launch) {z0 n : Nat} {D : va_G} {cy : Nat → ClassId} {ad : Nat → Nat} {g : Nat → va_E} {x : Int32} (hx : x ≠ 0) : Ct0 l yX4_needArgument cX4_needArgument 1 none 6 100 z0 D cy n ad g [.int x] none g := by
  refine ct_of (by decide +kernel) 0 [some (.int x)] (Nat.le_of_ble_eq_true rfl) rfl ?_
  intro p e s m below meth c X hr hlk hnm
  refine v_iload0 X dX4_needArgument_0 rfl ?_
  refine v_if_ne (tgt := 14) X dX4_needArgument_1 (by decide) (fun _ => ?_) (fun h => absurd h hx)
  exact v_vret X hr hlk dX4_needArgument_14 ⟨rfl, rfl, rfl, rfl⟩
set_option maxRecDepth 100000 in
set_option maxHeartbeats 4000000 in
theorem x_needState (l : Launch) (hst : l.stackTraces = false) {z0 n : Nat} {D : va_G} {cy : Nat → ClassId} {ad : Nat → Nat} {g : Nat → va_E} : CtX l yX4_needState cX4_needState 1 none 6 100 z0 D cy n ad g [.int 0] eS := by
  refine ctx_of (by decide +kernel) 0 [some (.int 0)] (Nat.le_of_ble_eq_true rfl) rfl ?_
  intro p e s m below meth c X ht hlk
  refine v_iload0 X dX4_needState_0 rfl ?_
  refine v_if_ne (tgt := 14) X dX4_needState_1 (by decide) (fun h => absurd rfl h) (fun _ => ?_)
  exact v_throwS (text := "not possible now") X hst (by decide +kernel) eN_fit wk_X4_188 wz_IllegalStateException (by decide +kernel) eS_g eS_n eS_o dX4_needState_4 dX4_needState_7 dX4_needState_8 dX4_needState_10 dX4_needState_13 ht hlk ⟨Nat.le_of_ble_eq_true rfl, Nat.le_of_ble_eq_true rfl, Nat.le_of_ble_eq_true rfl, Nat.le_of_ble_eq_true rfl⟩
set_option maxRecDepth 100000 in
set_option maxHeartbeats 4000000 in
theorem c_needState (l : Launch) {z0 n : Nat} {D : va_G} {cy : Nat → ClassId} {ad : Nat → Nat} {g : Nat → va_E} {x : Int32} (hx : x ≠ 0) : Ct0 l yX4_needState cX4_needState 1 none 6 100 z0 D cy n ad g [.int x] none g := by
  refine ct_of (by decide +kernel) 0 [some (.int x)] (Nat.le_of_ble_eq_true rfl) rfl ?_
  intro p e s m below meth c X hr hlk hnm
  refine v_iload0 X dX4_needState_0 rfl ?_
  refine v_if_ne (tgt := 14) X dX4_needState_1 (by decide) (fun _ => ?_) (fun h => absurd h hx)
  exact v_vret X hr hlk dX4_needState_14 ⟨rfl, rfl, rfl, rfl⟩
/-- the class's object -/
def RO (ad : Nat → Nat) (n : Nat) (g : Nat → va_E) : Prop := 4 + 25 ≤ n ∧ vAt n g 0 (.inr (4, [.ref (ad 1), .ref (ad 4), .ref (ad 29)]))
set_option maxRecDepth 100000 in
set_option maxHeartbeats 4000000 in
theorem x_needHouse (l : Launch) (hst : l.stackTraces = false) {z0 n : Nat} {D : va_G} {cy : Nat → ClassId} {ad : Nat → Nat} {x : Int32} {S : tS} {g0 : Nat → va_E} (hR : RO ad n (gV cy ad 4 S g0)) (hx : hasB (sN S) x = 0) : CtX l yX4_needHouse cX4_needHouse 2 none 6 100 z0 D cy n ad (gV cy ad 4 S g0) [.ref (ad 0), .int x] eI := by
  refine ctx_of (by decide +kernel) 0 [some (.ref (ad 0)), some (.int x)] (Nat.le_of_ble_eq_true rfl) rfl ?_
  intro p e s m below meth c X ht hlk
  refine v_aload0 X dX4_needHouse_0 rfl ?_
  refine gf_X4_21 X dX4_needHouse_1 hR.2 ?_
  refine v_iload1 X dX4_needHouse_4 rfl ?_
  refine cd_X4_62 X dX4_needHouse_5 (c_X2_hasHouse l hR.1) (gV_v hR.1) rfl (Nat.le_of_ble_eq_true rfl) ⟨(Nat.le_of_ble_eq_true rfl), (Nat.le_of_ble_eq_true rfl), (Nat.le_of_ble_eq_true rfl), (Nat.le_of_ble_eq_true rfl)⟩ ?_
  rw [hx]
  refine v_if_ne (tgt := 21) X dX4_needHouse_8 (by decide) (fun h => absurd rfl h) (fun _ => ?_)
  exact v_throwS (text := "no such house") X hst (by decide +kernel) eN_fit wk_X4_169 wz_IndexOutOfBoundsException (by decide +kernel) eI_g eI_n eI_o dX4_needHouse_11 dX4_needHouse_14 dX4_needHouse_15 dX4_needHouse_17 dX4_needHouse_20 ht hlk ⟨Nat.le_of_ble_eq_true rfl, Nat.le_of_ble_eq_true rfl, Nat.le_of_ble_eq_true rfl, Nat.le_of_ble_eq_true rfl⟩
set_option maxRecDepth 100000 in
set_option maxHeartbeats 4000000 in
theorem c_needHouse (l : Launch) {z0 n : Nat} {D : va_G} {cy : Nat → ClassId} {ad : Nat → Nat} {x : Int32} {S : tS} {g0 : Nat → va_E} (hR : RO ad n (gV cy ad 4 S g0)) (hx : hasB (sN S) x = 1) : Ct0 l yX4_needHouse cX4_needHouse 2 none 6 100 z0 D cy n ad (gV cy ad 4 S g0) [.ref (ad 0), .int x] none (gV cy ad 4 S g0) := by
  refine ct_of (by decide +kernel) 0 [some (.ref (ad 0)), some (.int x)] (Nat.le_of_ble_eq_true rfl) rfl ?_
  intro p e s m below meth c X hr hlk hnm
  refine v_aload0 X dX4_needHouse_0 rfl ?_
  refine gf_X4_21 X dX4_needHouse_1 hR.2 ?_
  refine v_iload1 X dX4_needHouse_4 rfl ?_
  refine cd_X4_62 X dX4_needHouse_5 (c_X2_hasHouse l hR.1) (gV_v hR.1) rfl (Nat.le_of_ble_eq_true rfl) ⟨(Nat.le_of_ble_eq_true rfl), (Nat.le_of_ble_eq_true rfl), (Nat.le_of_ble_eq_true rfl), (Nat.le_of_ble_eq_true rfl)⟩ ?_
  rw [hx]
  refine v_if_ne (tgt := 21) X dX4_needHouse_8 (by decide) (fun _ => ?_) (fun h => absurd h (by decide))
  exact v_vret X hr hlk dX4_needHouse_21 ⟨rfl, rfl, rfl, rfl⟩
set_option maxRecDepth 100000 in
set_option maxHeartbeats 4000000 in
theorem x_needPipe (l : Launch) (hst : l.stackTraces = false) {z0 n : Nat} {D : va_G} {cy : Nat → ClassId} {ad : Nat → Nat} {x : Int32} {S : tS} {g0 : Nat → va_E} (hR : RO ad n (gV cy ad 4 S g0)) (hx : hasB (sP S) x = 0) : CtX l yX4_needPipe cX4_needPipe 2 none 6 100 z0 D cy n ad (gV cy ad 4 S g0) [.ref (ad 0), .int x] eI := by
  refine ctx_of (by decide +kernel) 0 [some (.ref (ad 0)), some (.int x)] (Nat.le_of_ble_eq_true rfl) rfl ?_
  intro p e s m below meth c X ht hlk
  refine v_aload0 X dX4_needPipe_0 rfl ?_
  refine gf_X4_21 X dX4_needPipe_1 hR.2 ?_
  refine v_iload1 X dX4_needPipe_4 rfl ?_
  refine cd_X4_176 X dX4_needPipe_5 (c_X2_hasPipe l hR.1) (gV_v hR.1) rfl (Nat.le_of_ble_eq_true rfl) ⟨(Nat.le_of_ble_eq_true rfl), (Nat.le_of_ble_eq_true rfl), (Nat.le_of_ble_eq_true rfl), (Nat.le_of_ble_eq_true rfl)⟩ ?_
  rw [hx]
  refine v_if_ne (tgt := 21) X dX4_needPipe_8 (by decide) (fun h => absurd rfl h) (fun _ => ?_)
  exact v_throwS (text := "no such pipe") X hst (by decide +kernel) eN_fit wk_X4_169 wz_IndexOutOfBoundsException (by decide +kernel) eI_g eI_n eI_o dX4_needPipe_11 dX4_needPipe_14 dX4_needPipe_15 dX4_needPipe_17 dX4_needPipe_20 ht hlk ⟨Nat.le_of_ble_eq_true rfl, Nat.le_of_ble_eq_true rfl, Nat.le_of_ble_eq_true rfl, Nat.le_of_ble_eq_true rfl⟩
set_option maxRecDepth 100000 in
set_option maxHeartbeats 4000000 in
theorem c_needPipe (l : Launch) {z0 n : Nat} {D : va_G} {cy : Nat → ClassId} {ad : Nat → Nat} {x : Int32} {S : tS} {g0 : Nat → va_E} (hR : RO ad n (gV cy ad 4 S g0)) (hx : hasB (sP S) x = 1) : Ct0 l yX4_needPipe cX4_needPipe 2 none 6 100 z0 D cy n ad (gV cy ad 4 S g0) [.ref (ad 0), .int x] none (gV cy ad 4 S g0) := by
  refine ct_of (by decide +kernel) 0 [some (.ref (ad 0)), some (.int x)] (Nat.le_of_ble_eq_true rfl) rfl ?_
  intro p e s m below meth c X hr hlk hnm
  refine v_aload0 X dX4_needPipe_0 rfl ?_
  refine gf_X4_21 X dX4_needPipe_1 hR.2 ?_
  refine v_iload1 X dX4_needPipe_4 rfl ?_
  refine cd_X4_176 X dX4_needPipe_5 (c_X2_hasPipe l hR.1) (gV_v hR.1) rfl (Nat.le_of_ble_eq_true rfl) ⟨(Nat.le_of_ble_eq_true rfl), (Nat.le_of_ble_eq_true rfl), (Nat.le_of_ble_eq_true rfl), (Nat.le_of_ble_eq_true rfl)⟩ ?_
  rw [hx]
  refine v_if_ne (tgt := 21) X dX4_needPipe_8 (by decide) (fun _ => ?_) (fun h => absurd h (by decide))
  exact v_vret X hr hlk dX4_needPipe_21 ⟨rfl, rfl, rfl, rfl⟩
section CX
variable {p : Program} {l : Launch} {e : Env} {R : Room} {s : State} {m : MethodId} {args : Array Value} {below : List Frame} {meth : Method} {c : Code}
variable {cc : ByteArray} {nL z0 n pc : Nat} {D : va_G} {cy : Nat → ClassId} {ad : Nat → Nat} {g : Nat → va_E} {L : List (Option Value)} {st : List Value}
theorem cx_X4_32 (X : vCx p s m args c cc RX4 nL z0 D cy) (ht : ∀ x ∈ c.exceptionTable.toList, False) (hlk : meth.locks = false) {a1 : Value} {E : String} {f lo : Nat} (d : decode cc pc = .ok (.invokestatic 32, 3)) (hM : CtX l yX4_needIndex cX4_needIndex 1 none f lo z0 D cy n ad g [a1] E) (hst : (st.map fun v => v.category).sum ≤ 8) (hR : f + 1 ≤ R.frames ∧ 8 + (1 + 11) + lo ≤ R.locals ∧ 0 + 1 ≤ R.cells ∧ 0 + 6 ≤ R.slots) : vV p l e R s m args below meth c nL z0 D 0 0 (vx_MQ below QcF (XCx z0 D n ad g E) args s 1 6 (fun q => z0 ≤ q)) n ad g pc L (a1 :: st) := v_callSX (As := [a1]) X wm_X4_32 wt_X4_needIndex wz_X4 wc_X4_needIndex ⟨by decide, by decide, (show (parseMethodDescriptor yX4_needIndex.desc).map (fun d => d.parameters.length) = some 1 from by decide +kernel)⟩ d hM rfl hst hR (v_out X ht hlk (Nat.le_of_ble_eq_true rfl) (Nat.le_of_ble_eq_true rfl))
theorem cx_X4_36 (X : vCx p s m args c cc RX4 nL z0 D cy) (ht : ∀ x ∈ c.exceptionTable.toList, False) (hlk : meth.locks = false) {a1 : Value} {E : String} {f lo : Nat} (d : decode cc pc = .ok (.invokestatic 36, 3)) (hM : CtX l yX4_needArgument cX4_needArgument 1 none f lo z0 D cy n ad g [a1] E) (hst : (st.map fun v => v.category).sum ≤ 8) (hR : f + 1 ≤ R.frames ∧ 8 + (1 + 11) + lo ≤ R.locals ∧ 0 + 1 ≤ R.cells ∧ 0 + 6 ≤ R.slots) : vV p l e R s m args below meth c nL z0 D 0 0 (vx_MQ below QcF (XCx z0 D n ad g E) args s 1 6 (fun q => z0 ≤ q)) n ad g pc L (a1 :: st) := v_callSX (As := [a1]) X wm_X4_36 wt_X4_needArgument wz_X4 wc_X4_needArgument ⟨by decide, by decide, (show (parseMethodDescriptor yX4_needArgument.desc).map (fun d => d.parameters.length) = some 1 from by decide +kernel)⟩ d hM rfl hst hR (v_out X ht hlk (Nat.le_of_ble_eq_true rfl) (Nat.le_of_ble_eq_true rfl))
theorem cx_X4_51 (X : vCx p s m args c cc RX4 nL z0 D cy) (ht : ∀ x ∈ c.exceptionTable.toList, False) (hlk : meth.locks = false) {a1 : Value} {E : String} {f lo : Nat} (d : decode cc pc = .ok (.invokestatic 51, 3)) (hM : CtX l yX4_needState cX4_needState 1 none f lo z0 D cy n ad g [a1] E) (hst : (st.map fun v => v.category).sum ≤ 8) (hR : f + 1 ≤ R.frames ∧ 8 + (1 + 11) + lo ≤ R.locals ∧ 0 + 1 ≤ R.cells ∧ 0 + 6 ≤ R.slots) : vV p l e R s m args below meth c nL z0 D 0 0 (vx_MQ below QcF (XCx z0 D n ad g E) args s 1 6 (fun q => z0 ≤ q)) n ad g pc L (a1 :: st) := v_callSX (As := [a1]) X wm_X4_51 wt_X4_needState wz_X4 wc_X4_needState ⟨by decide, by decide, (show (parseMethodDescriptor yX4_needState.desc).map (fun d => d.parameters.length) = some 1 from by decide +kernel)⟩ d hM rfl hst hR (v_out X ht hlk (Nat.le_of_ble_eq_true rfl) (Nat.le_of_ble_eq_true rfl))
theorem cx_X4_58 (X : vCx p s m args c cc RX4 nL z0 D cy) (ht : ∀ x ∈ c.exceptionTable.toList, False) (hlk : meth.locks = false) {a1 : Value} {k : Nat} {E : String} {f lo : Nat} (d : decode cc pc = .ok (.invokevirtual 58, 3)) (hM : CtX l yX4_needHouse cX4_needHouse 2 none f lo z0 D cy n ad g [.ref (ad k), a1] E) {e1 : va_E} (hrecv : vAt n g k e1) {fs : List Value} (he : e1 = .inr (4, fs)) (hst : (st.map fun v => v.category).sum ≤ 8) (hR : f + 1 ≤ R.frames ∧ 8 + (2 + 11) + lo ≤ R.locals ∧ 0 + 1 ≤ R.cells ∧ 0 + 6 ≤ R.slots) : vV p l e R s m args below meth c nL z0 D 0 0 (vx_MQ below QcF (XCx z0 D n ad g E) args s 1 6 (fun q => z0 ≤ q)) n ad g pc L (a1 :: .ref (ad k) :: st) := v_callVX (As := [a1]) X wm_X4_58 wi_X4_needHouse ws_X4_needHouse wz_X4 wc_X4_needHouse ⟨rfl, by decide, by decide, (show (parseMethodDescriptor yX4_needHouse.desc).map (fun d => d.parameters.length) = some 1 from by decide +kernel)⟩ rfl d hM (he ▸ hrecv) rfl hst hR (v_out X ht hlk (Nat.le_of_ble_eq_true rfl) (Nat.le_of_ble_eq_true rfl))
theorem cx_X4_89 (X : vCx p s m args c cc RX4 nL z0 D cy) (ht : ∀ x ∈ c.exceptionTable.toList, False) (hlk : meth.locks = false) {a1 : Value} {k : Nat} {E : String} {f lo : Nat} (d : decode cc pc = .ok (.invokevirtual 89, 3)) (hM : CtX l yX4_needPipe cX4_needPipe 2 none f lo z0 D cy n ad g [.ref (ad k), a1] E) {e1 : va_E} (hrecv : vAt n g k e1) {fs : List Value} (he : e1 = .inr (4, fs)) (hst : (st.map fun v => v.category).sum ≤ 8) (hR : f + 1 ≤ R.frames ∧ 8 + (2 + 11) + lo ≤ R.locals ∧ 0 + 1 ≤ R.cells ∧ 0 + 6 ≤ R.slots) : vV p l e R s m args below meth c nL z0 D 0 0 (vx_MQ below QcF (XCx z0 D n ad g E) args s 1 6 (fun q => z0 ≤ q)) n ad g pc L (a1 :: .ref (ad k) :: st) := v_callVX (As := [a1]) X wm_X4_89 wi_X4_needPipe ws_X4_needPipe wz_X4 wc_X4_needPipe ⟨rfl, by decide, by decide, (show (parseMethodDescriptor yX4_needPipe.desc).map (fun d => d.parameters.length) = some 1 from by decide +kernel)⟩ rfl d hM (he ▸ hrecv) rfl hst hR (v_out X ht hlk (Nat.le_of_ble_eq_true rfl) (Nat.le_of_ble_eq_true rfl))
end CX
/-! within -/
def IN (x a b : Int32) : Prop := a ≤ x ∧ x ≤ b
def inB (x a b : Int32) : Int32 := if x < a then 0 else if b < x then 0 else 1
theorem inB_1 {x a b : Int32} (h : IN x a b) : inB x a b = 1 := by
  unfold inB
  rw [if_neg (Int32.not_lt.mpr h.1), if_neg (Int32.not_lt.mpr h.2)]
theorem inB_0 {x a b : Int32} (h : ¬ IN x a b) : inB x a b = 0 := by
  unfold inB
  by_cases h1 : x < a
  · rw [if_pos h1]
  · rw [if_neg h1, if_pos (Int32.not_le.mp (fun h2 => h ⟨Int32.not_lt.mp h1, h2⟩))]
set_option maxRecDepth 100000 in
set_option maxHeartbeats 4000000 in
theorem c_isWithin (l : Launch) {z0 n : Nat} {D : va_G} {cy : Nat → ClassId} {ad : Nat → Nat} {g : Nat → va_E} {x a b : Int32} : Ct0 l yX4_isWithin cX4_isWithin 3 (some FieldType.boolean) 0 0 z0 D cy n ad g [.int x, .int a, .int b] (some (.int (inB x a b))) g := by
  refine ct_of (by decide +kernel) 0 [some (.int x), some (.int a), some (.int b)] (Nat.le_of_ble_eq_true rfl) rfl ?_
  intro p e s m below meth c X hr hlk hnm
  refine v_iload0 X dX4_isWithin_0 rfl ?_
  refine v_iload1 X dX4_isWithin_1 rfl ?_
  refine v_icmp_lt (tgt := 14) X dX4_isWithin_2 (by decide) (fun h1 => ?_) (fun h1 => ?_)
  · refine v_ico (v := 0) X dX4_isWithin_14 (by decide) ?_
    exact v_zret X hr hlk dX4_isWithin_15 rfl ⟨by unfold inB; rw [if_pos h1], rfl, rfl, rfl⟩
  · refine v_iload0 X dX4_isWithin_5 rfl ?_
    refine v_iload2 X dX4_isWithin_6 rfl ?_
    refine v_icmp_gt (tgt := 14) X dX4_isWithin_7 (by decide) (fun h2 => ?_) (fun h2 => ?_)
    · refine v_ico (v := 0) X dX4_isWithin_14 (by decide) ?_
      exact v_zret X hr hlk dX4_isWithin_15 rfl ⟨by unfold inB; rw [if_neg h1, if_pos h2], rfl, rfl, rfl⟩
    · refine v_ico (v := 1) X dX4_isWithin_10 (by decide) ?_
      refine v_goto (tgt := 15) X dX4_isWithin_11 (by decide) ?_
      exact v_zret X hr hlk dX4_isWithin_15 rfl ⟨by unfold inB; rw [if_neg h1, if_neg h2], rfl, rfl, rfl⟩
set_option maxRecDepth 100000 in
set_option maxHeartbeats 4000000 in
theorem c_mix (l : Launch) {z0 n : Nat} {D : va_G} {cy : Nat → ClassId} {ad : Nat → Nat} {g : Nat → va_E} {x y : Int64} : Ct0 l yX4_mix cX4_mix 4 (some FieldType.long) 0 0 z0 D cy n ad g [.long x, .long y] (some (.long (x * 31 + y))) g := by
  refine ct_of (by decide +kernel) 0 [some (.long x), none, some (.long y), none] (Nat.le_of_ble_eq_true rfl) rfl ?_
  intro p e s m below meth c X hr hlk hnm
  refine v_lload0 X dX4_mix_0 rfl ?_
  refine v_ldc2 X dX4_mix_1 wq_X4_167 ?_
  refine v_lmul X dX4_mix_4 ?_
  refine v_lload2 X dX4_mix_5 rfl ?_
  refine v_ladd X dX4_mix_6 ?_
  exact v_lret X hr hlk dX4_mix_7 ⟨rfl, rfl, rfl, rfl⟩
