/-! the law's wrappers -/
theorem ct_mono {l : Launch} {y : MethodName} {bytes : ByteArray} {maxL mc ms z0 n : Nat} {ret : Option FieldType} {rm : Room} {D : va_G} {cy : Nat → ClassId} {ad : Nat → Nat} {g : Nat → va_E} {P P' : CtP} {av : List Value} (h : CtG l y bytes maxL ret rm z0 D cy n ad g av P mc ms) (hP : ∀ r n' ad' g', P r n' ad' g' → P' r n' ad' g') : CtG l y bytes maxL ret rm z0 D cy n ad g av P' mc ms := by
  unfold CtG Met at h ⊢
  exact MetFree.mono h (fun _ _ q => q) (fun _ _ _ _ _ q => q) (fun _ _ _ _ _ q => by
    obtain ⟨⟨⟨r, n', ad', g', h1, h2, h3, h4⟩, h5⟩, h6⟩ := q
    exact ⟨⟨⟨r, n', ad', g', h1, hP _ _ _ _ h2, h3, h4⟩, h5⟩, h6⟩)
/-- a method with an exception table -/
def CtW (l : Launch) (y : MethodName) (cc : ByteArray) (maxL : Nat) (ret : Option FieldType) (hh : List (Nat × Nat × Nat × Nat)) (f lo z0 : Nat) (D : va_G) (cy : Nat → ClassId) (n : Nat) (ad : Nat → Nat) (g : Nat → va_E) (av : List Value) (P : CtP) : Prop :=
  Met l y (.codeWith y cc maxL ret hh :: UW) { frames := f, cells := 1, slots := 6, locals := lo } (va_Pc av (wd z0 D cy n ad g)) (QcR z0 D P) 1 6 (fun q => z0 ≤ q)
theorem UW_goodW {y : MethodName} {cc : ByteArray} {maxL : Nat} {ret : Option FieldType} {hh : List (Nat × Nat × Nat × Nat)} (h : Cond.codeWith y cc maxL ret hh ∈ UW) : GoodIn UW (.codeWith y cc maxL ret hh :: UW) := by
  intro w hw
  rcases List.mem_cons.mp hw with rfl | hw
  · exact ⟨h, good_of_word (List.mem_filter.mp h).2⟩
  · exact ⟨hw, good_of_word (List.mem_filter.mp hw).2⟩
section CW
variable {p : Program} {l : Launch} {e : Env} {R : Room} {s : State} {m : MethodId} {args : Array Value} {below : List Frame} {meth : Method} {c : Code} {cells slots : Nat} {Q : State → Prop}
variable {cc : ByteArray} {own : String} {nL z0 n pc : Nat} {D : va_G} {cy : Nat → ClassId} {ad : Nat → Nat} {g : Nat → va_E} {L : List (Option Value)} {st : List Value}
variable {y : MethodName} {bytes : ByteArray} {maxL mc ms f lo : Nat} {ret : Option FieldType} {rm : Room} {P : CtP} {hh : List (Nat × Nat × Nat × Nat)}
theorem ctw_of {av : List Value} (hy : plainName y.cls = true) (k : Nat) (L : List (Option Value)) (hlen : (lg_sl av).length ≤ maxL) (hL : argsL av ++ List.replicate k none = L)
    (body : ∀ (p : Program) (e : Env) (s : State) (m : MethodId) (below : List Frame) (meth : Method) (c : Code), vCx p s m av.toArray c bytes y.cls maxL z0 D cy → c.exceptionTable.toList = tableOf hh → meth.sig.returnType = ret → meth.locks = false →
      vV p l e { frames := f, cells := 1, slots := 6, locals := lo } s m av.toArray below meth c maxL z0 D 0 0 (MQ below (QcR z0 D P) av.toArray s 1 6 (fun q => z0 ≤ q)) n ad g 0 L []) : CtW l y bytes maxL ret hh f lo z0 D cy n ad g av P := by
  refine va_MetW (cc := bytes) (maxL := maxL) (ret := ret) (hh := hh) hy rfl ?_
  intro p e s m args below meth c s₁ B hml hv
  obtain ⟨rfl, hz, hP, hD, hK, hF⟩ := hv
  have hts := atoms_spec (ws := .codeWith y bytes maxL ret hh :: UW) B.pre
  have hown : s.vm.findClass y.cls = some m.cls := findClass_of_methodNamed B.named
  have hl := hasL_entry hlen hL
  rw [lg_entry_eq]
  exact body p e s m below meth c ⟨B.exec, B.bytes, hml, hown, fun w h => hts w (List.mem_cons_of_mem _ h), hK, hz, hF⟩ (vx_table (x := y) B (hts _ List.mem_cons_self)) B.returns B.notSynchronized s.heap [] _ va_S.rf hP hD hl
theorem v_callSW (X : vCx p s m args c cc own nL z0 D cy) {idx : Nat} {As st0 : List Value} (wm : Cond.methodLink own idx y ∈ UW) (wt : Cond.static y ∈ UW) (wz : Cond.initialized y.cls ∈ UW) (wc : Cond.codeWith y bytes maxL ret hh ∈ UW)
    (hd : y.cls ≠ "java/lang/invoke/MethodHandle" ∧ y.cls ≠ "java/lang/invoke/VarHandle" ∧ (parseMethodDescriptor y.desc).map (fun d => d.parameters.length) = some As.length)
    (d : decode cc pc = .ok (.invokestatic idx, 3)) (hM : CtW l y bytes maxL ret hh f lo z0 D cy n ad g As P) (hs : st0 = As.reverse ++ st) (hst : (st.map fun v => v.category).sum ≤ 8)
    (hR : f + 1 ≤ R.frames ∧ 8 + (maxL + 11) + lo ≤ R.locals ∧ cells + 1 ≤ R.cells ∧ slots + 6 ≤ R.slots)
    (kk : ∀ (r : Option Value) (n' : Nat) (ad' : Nat → Nat) (g' : Nat → va_E), P r n' ad' g' → vV p l e R s m args below meth c nL z0 D (cells + 1) (slots + 6) Q n' ad' g' (pc + 3) L (r.toList ++ st)) : vV p l e R s m args below meth c nL z0 D cells slots Q n ad g pc L st0 := fun H locs ls hS hPP hD hl =>
  v_ofRun (vx_runSW (As := As) (rest := st) ⟨X.1, X.2.1, X.2.2.1, X.2.2.2.1, X.2.2.2.2.1⟩ hM (vx_cwSW As.length X.2.2.2.2.1 (by
    unfold va_wsS
    intro w hw
    rcases List.mem_append.mp hw with h | h
    · refine UW_goodL (ws := [_, _, _]) (fun w hw => ?_) w h
      rcases List.mem_cons.mp hw with rfl | hw
      · exact wm
      rcases List.mem_cons.mp hw with rfl | hw
      · exact wt
      rcases List.mem_cons.mp hw with rfl | hw
      · exact wz
      cases hw
    · exact UW_goodW wc w h) rfl rfl rfl hd ⟨hR.1, hR.2.1⟩) ⟨wd.blind, X.pre hS hPP hD⟩ rfl rfl hl.1 hs (lv_room hst) d ⟨hR.2.2.1, hR.2.2.2⟩) hS hl kk
/-- caught here -/
theorem v_catch (X : vCx p s m args c cc own nL z0 D cy) {E name : String} {pre suf : List ExceptionTableEntry} {x : ExceptionTableEntry} (hsplit : c.exceptionTable.toList = pre ++ x :: suf) (hpass : ∀ z ∈ pre, z.catchType ≠ 0 ∧ ∃ nm : String, Cond.classLink own z.catchType nm ∈ UW ∧ (E, nm) ∈ xNot) (hx : covers x pc = true) (h0 : x.catchType ≠ 0) (hlink : Cond.classLink own x.catchType name ∈ UW) (hcast : (E, name) ∈ xCast)
    (kk : ∀ q : Nat, vV p l e R s m args below meth c nL z0 D cells slots Q n ad g x.handlerPc L [.ref q]) : vT p l e R s m args below meth c nL z0 D cells slots Q n ad g pc L st E := fun H locs ls ce q hS hP hD hl hce hcv hcl =>
  vx_catch X.2.2.2.1 pre x suf hsplit (fun z hz => by
    obtain ⟨h1, nm, h2, h3⟩ := hpass z hz
    exact Or.inr ⟨h1, nm, X.2.2.2.2.1 _ h2, X.2.2.2.2.2.2.2.2.2.2.2.2.2.2 _ h3⟩) hx h0 (X.2.2.2.2.1 _ hlink) (va_Nw.use rfl (X.2.2.2.2.2.2.2.2.1 _ hcast)) hce hcv hcl (kk q H locs ls hS hP hD hl)
end CW
def oA (cy : Nat → ClassId) (f : Nat → Int64) : va_E := .inl (cy 1, 1, .inr (.inl f))
/-- the class's answer is v; the world behind it is one of G -/
abbrev gP (v : Int32) (n : Nat) (ad : Nat → Nat) (G : (Nat → va_E) → Prop) : CtP := fun r n' ad' g' => r = some (.int v) ∧ n' = n ∧ ad' = ad ∧ G g'
/-- 0, and the answer laid out -/
abbrev wP (v : Int64) (cy : Nat → ClassId) (n : Nat) (ad : Nat → Nat) (G : (Nat → va_E) → Prop) : CtP := fun r n' ad' g' => r = some (.int 0) ∧ n' = n ∧ ad' = ad ∧ ∃ g1 f, G g1 ∧ f 0 = v ∧ g' = va_up g1 61 (oA cy f)

set_option maxRecDepth 100000 in
set_option maxHeartbeats 4000000 in
theorem w_setWeather (l : Launch) {z0 n : Nat} {D : va_G} {cy : Nat → ClassId} {ad : Nat → Nat} {g : Nat → va_E} {a0 a1 a2 : Int32} {v : Int32} {G : (Nat → va_E) → Prop} {e0 : va_E} (h0 : vAt n g 0 e0) {fs : List Value} (he : e0 = .inr (4, fs)) (hM : CtG l yX4_setWeather cX4_setWeather 5 (some FieldType.int) (rmv 7 120) z0 D cy n ad g [.ref (ad 0), .int a0, .int a1, .int a2] (gP v n ad G) 0 0) (hG : ∀ g1, G g1 → ∃ f, vAt n g1 61 (oA cy f)) : CtW l yL_setWeather cL_setWeather 6 (some FieldType.int) [(0, 12, 15, 13), (0, 12, 19, 15)] 8 144 z0 D cy n ad g [.ref (ad 0), .int a0, .int a1, .int a2, .ref (ad 61)] (wP v.toInt64 cy n ad G) := by
  refine ctw_of (by decide +kernel) 1 [some (.ref (ad 0)), some (.int a0), some (.int a1), some (.int a2), some (.ref (ad 61)), none] (Nat.le_of_ble_eq_true rfl) rfl ?_
  intro p e s m below meth c X ht hr hlk
  refine v_aload X dL_setWeather_0 rfl ?_
  refine v_ico (v := 0) X dL_setWeather_2 (by decide) ?_
  refine v_aload0 X dL_setWeather_3 rfl ?_
  refine v_iload1 X dL_setWeather_4 rfl ?_
  refine v_iload2 X dL_setWeather_5 rfl ?_
  refine v_iload3 X dL_setWeather_6 rfl ?_
  refine v_callV (As := [.int a0, .int a1, .int a2]) X wm_L_7 wi_X4_setWeather ws_X4_setWeather wz_X4 wc_X4_setWeather ⟨rfl, by decide, by decide, (show (parseMethodDescriptor yX4_setWeather.desc).map (fun d => d.parameters.length) = some 3 from by decide +kernel)⟩ rfl dL_setWeather_7 hM (he ▸ h0) rfl (Nat.le_of_ble_eq_true rfl) ⟨rfl, rfl, (Nat.le_of_ble_eq_true rfl), (Nat.le_of_ble_eq_true rfl), (Nat.le_of_ble_eq_true rfl), (Nat.le_of_ble_eq_true rfl)⟩ ?_
  rintro r1 n1 ad1 g1 ⟨rfl, rfl, rfl, hg⟩
  obtain ⟨f, hf⟩ := hG g1 hg
  refine v_i2l X dL_setWeather_10 ?_
  refine v_last (j := 0) X dL_setWeather_11 hf rfl (by decide) (by decide) ?_
  refine v_goto (tgt := 23) X dL_setWeather_12 (by decide) ?_
  refine v_ico (v := 0) X dL_setWeather_23 (by decide) ?_
  refine vV.wd (k := 1) (n' := 6) (by decide) (by decide) ?_
  exact v_iret X hr hlk dL_setWeather_24 ⟨rfl, rfl, rfl, g1, vp_updL f 0 v.toInt64, hg, by simp [vp_updL], rfl⟩
set_option maxRecDepth 100000 in
set_option maxHeartbeats 4000000 in
theorem w1_setWeather (l : Launch) {z0 n : Nat} {D : va_G} {cy : Nat → ClassId} {ad : Nat → Nat} {g : Nat → va_E} {a0 a1 a2 : Int32} {e0 : va_E} (h0 : vAt n g 0 e0) {fs : List Value} (he : e0 = .inr (4, fs)) (hM : CtX l yX4_setWeather cX4_setWeather 5 (some FieldType.int) 7 120 z0 D cy n ad g [.ref (ad 0), .int a0, .int a1, .int a2] eI) : CtW l yL_setWeather cL_setWeather 6 (some FieldType.int) [(0, 12, 15, 13), (0, 12, 19, 15)] 8 144 z0 D cy n ad g [.ref (ad 0), .int a0, .int a1, .int a2, .ref (ad 61)] (isR (some (.int 1)) n ad g) := by
  refine ctw_of (by decide +kernel) 1 [some (.ref (ad 0)), some (.int a0), some (.int a1), some (.int a2), some (.ref (ad 61)), none] (Nat.le_of_ble_eq_true rfl) rfl ?_
  intro p e s m below meth c X ht hr hlk
  refine v_aload X dL_setWeather_0 rfl ?_
  refine v_ico (v := 0) X dL_setWeather_2 (by decide) ?_
  refine v_aload0 X dL_setWeather_3 rfl ?_
  refine v_iload1 X dL_setWeather_4 rfl ?_
  refine v_iload2 X dL_setWeather_5 rfl ?_
  refine v_iload3 X dL_setWeather_6 rfl ?_
  refine v_callVX (As := [.int a0, .int a1, .int a2]) X wm_L_7 wi_X4_setWeather ws_X4_setWeather wz_X4 wc_X4_setWeather ⟨rfl, by decide, by decide, (show (parseMethodDescriptor yX4_setWeather.desc).map (fun d => d.parameters.length) = some 3 from by decide +kernel)⟩ rfl dL_setWeather_7 hM (he ▸ h0) rfl (Nat.le_of_ble_eq_true rfl) ⟨(Nat.le_of_ble_eq_true rfl), (Nat.le_of_ble_eq_true rfl), (Nat.le_of_ble_eq_true rfl), (Nat.le_of_ble_eq_true rfl)⟩ ?_
  refine v_catch (pre := []) (x := ⟨0, 12, 15, 13⟩) (suf := [⟨0, 12, 19, 15⟩]) X (by rw [ht]; rfl) (fun z hz => ?_) (by decide) (by decide) wk_L_13 (by decide) (fun q => ?_)
  · cases hz
  refine v_astore5 X rfl (Nat.le_of_ble_eq_true rfl) dL_setWeather_15 ?_
  refine v_ico (v := 1) X dL_setWeather_17 (by decide) ?_
  exact v_iret X hr hlk dL_setWeather_18 ⟨rfl, rfl, rfl, rfl⟩
set_option maxRecDepth 100000 in
set_option maxHeartbeats 4000000 in
theorem w2_setWeather (l : Launch) {z0 n : Nat} {D : va_G} {cy : Nat → ClassId} {ad : Nat → Nat} {g : Nat → va_E} {a0 a1 a2 : Int32} {e0 : va_E} (h0 : vAt n g 0 e0) {fs : List Value} (he : e0 = .inr (4, fs)) (hM : CtX l yX4_setWeather cX4_setWeather 5 (some FieldType.int) 7 120 z0 D cy n ad g [.ref (ad 0), .int a0, .int a1, .int a2] eA) : CtW l yL_setWeather cL_setWeather 6 (some FieldType.int) [(0, 12, 15, 13), (0, 12, 19, 15)] 8 144 z0 D cy n ad g [.ref (ad 0), .int a0, .int a1, .int a2, .ref (ad 61)] (isR (some (.int 2)) n ad g) := by
  refine ctw_of (by decide +kernel) 1 [some (.ref (ad 0)), some (.int a0), some (.int a1), some (.int a2), some (.ref (ad 61)), none] (Nat.le_of_ble_eq_true rfl) rfl ?_
  intro p e s m below meth c X ht hr hlk
  refine v_aload X dL_setWeather_0 rfl ?_
  refine v_ico (v := 0) X dL_setWeather_2 (by decide) ?_
  refine v_aload0 X dL_setWeather_3 rfl ?_
  refine v_iload1 X dL_setWeather_4 rfl ?_
  refine v_iload2 X dL_setWeather_5 rfl ?_
  refine v_iload3 X dL_setWeather_6 rfl ?_
  refine v_callVX (As := [.int a0, .int a1, .int a2]) X wm_L_7 wi_X4_setWeather ws_X4_setWeather wz_X4 wc_X4_setWeather ⟨rfl, by decide, by decide, (show (parseMethodDescriptor yX4_setWeather.desc).map (fun d => d.parameters.length) = some 3 from by decide +kernel)⟩ rfl dL_setWeather_7 hM (he ▸ h0) rfl (Nat.le_of_ble_eq_true rfl) ⟨(Nat.le_of_ble_eq_true rfl), (Nat.le_of_ble_eq_true rfl), (Nat.le_of_ble_eq_true rfl), (Nat.le_of_ble_eq_true rfl)⟩ ?_
  refine v_catch (pre := [⟨0, 12, 15, 13⟩]) (x := ⟨0, 12, 19, 15⟩) (suf := []) X (by rw [ht]; rfl) (fun z hz => ?_) (by decide) (by decide) wk_L_15 (by decide) (fun q => ?_)
  · rcases List.mem_cons.mp hz with rfl | hz
    · exact ⟨by decide, _, wk_L_13, by decide⟩
    cases hz
  refine v_astore5 X rfl (Nat.le_of_ble_eq_true rfl) dL_setWeather_19 ?_
  refine v_ico (v := 2) X dL_setWeather_21 (by decide) ?_
  exact v_iret X hr hlk dL_setWeather_22 ⟨rfl, rfl, rfl, rfl⟩
set_option maxRecDepth 100000 in
set_option maxHeartbeats 4000000 in
theorem w_build (l : Launch) {z0 n : Nat} {D : va_G} {cy : Nat → ClassId} {ad : Nat → Nat} {g : Nat → va_E} {a0 a1 a2 a3 : Int32} {v : Int32} {G : (Nat → va_E) → Prop} {e0 : va_E} (h0 : vAt n g 0 e0) {fs : List Value} (he : e0 = .inr (4, fs)) (hM : CtG l yX4_build cX4_build 5 (some FieldType.int) (rmv 7 120) z0 D cy n ad g [.ref (ad 0), .int a0, .int a1, .int a2, .int a3] (gP v n ad G) 0 0) (hG : ∀ g1, G g1 → ∃ f, vAt n g1 61 (oA cy f)) : CtW l yL_build cL_build 7 (some FieldType.int) [(0, 14, 17, 15), (0, 14, 21, 21)] 8 144 z0 D cy n ad g [.ref (ad 0), .int a0, .int a1, .int a2, .int a3, .ref (ad 61)] (wP v.toInt64 cy n ad G) := by
  refine ctw_of (by decide +kernel) 1 [some (.ref (ad 0)), some (.int a0), some (.int a1), some (.int a2), some (.int a3), some (.ref (ad 61)), none] (Nat.le_of_ble_eq_true rfl) rfl ?_
  intro p e s m below meth c X ht hr hlk
  refine v_aload X dL_build_0 rfl ?_
  refine v_ico (v := 0) X dL_build_2 (by decide) ?_
  refine v_aload0 X dL_build_3 rfl ?_
  refine v_iload1 X dL_build_4 rfl ?_
  refine v_iload2 X dL_build_5 rfl ?_
  refine v_iload3 X dL_build_6 rfl ?_
  refine v_iload X dL_build_7 rfl ?_
  refine v_callV (As := [.int a0, .int a1, .int a2, .int a3]) X wm_L_17 wi_X4_build ws_X4_build wz_X4 wc_X4_build ⟨rfl, by decide, by decide, (show (parseMethodDescriptor yX4_build.desc).map (fun d => d.parameters.length) = some 4 from by decide +kernel)⟩ rfl dL_build_9 hM (he ▸ h0) rfl (Nat.le_of_ble_eq_true rfl) ⟨rfl, rfl, (Nat.le_of_ble_eq_true rfl), (Nat.le_of_ble_eq_true rfl), (Nat.le_of_ble_eq_true rfl), (Nat.le_of_ble_eq_true rfl)⟩ ?_
  rintro r1 n1 ad1 g1 ⟨rfl, rfl, rfl, hg⟩
  obtain ⟨f, hf⟩ := hG g1 hg
  refine v_i2l X dL_build_12 ?_
  refine v_last (j := 0) X dL_build_13 hf rfl (by decide) (by decide) ?_
  refine v_goto (tgt := 25) X dL_build_14 (by decide) ?_
  refine v_ico (v := 0) X dL_build_25 (by decide) ?_
  refine vV.wd (k := 1) (n' := 6) (by decide) (by decide) ?_
  exact v_iret X hr hlk dL_build_26 ⟨rfl, rfl, rfl, g1, vp_updL f 0 v.toInt64, hg, by simp [vp_updL], rfl⟩
set_option maxRecDepth 100000 in
set_option maxHeartbeats 4000000 in
theorem w1_build (l : Launch) {z0 n : Nat} {D : va_G} {cy : Nat → ClassId} {ad : Nat → Nat} {g : Nat → va_E} {a0 a1 a2 a3 : Int32} {e0 : va_E} (h0 : vAt n g 0 e0) {fs : List Value} (he : e0 = .inr (4, fs)) (hM : CtX l yX4_build cX4_build 5 (some FieldType.int) 7 120 z0 D cy n ad g [.ref (ad 0), .int a0, .int a1, .int a2, .int a3] eA) : CtW l yL_build cL_build 7 (some FieldType.int) [(0, 14, 17, 15), (0, 14, 21, 21)] 8 144 z0 D cy n ad g [.ref (ad 0), .int a0, .int a1, .int a2, .int a3, .ref (ad 61)] (isR (some (.int 1)) n ad g) := by
  refine ctw_of (by decide +kernel) 1 [some (.ref (ad 0)), some (.int a0), some (.int a1), some (.int a2), some (.int a3), some (.ref (ad 61)), none] (Nat.le_of_ble_eq_true rfl) rfl ?_
  intro p e s m below meth c X ht hr hlk
  refine v_aload X dL_build_0 rfl ?_
  refine v_ico (v := 0) X dL_build_2 (by decide) ?_
  refine v_aload0 X dL_build_3 rfl ?_
  refine v_iload1 X dL_build_4 rfl ?_
  refine v_iload2 X dL_build_5 rfl ?_
  refine v_iload3 X dL_build_6 rfl ?_
  refine v_iload X dL_build_7 rfl ?_
  refine v_callVX (As := [.int a0, .int a1, .int a2, .int a3]) X wm_L_17 wi_X4_build ws_X4_build wz_X4 wc_X4_build ⟨rfl, by decide, by decide, (show (parseMethodDescriptor yX4_build.desc).map (fun d => d.parameters.length) = some 4 from by decide +kernel)⟩ rfl dL_build_9 hM (he ▸ h0) rfl (Nat.le_of_ble_eq_true rfl) ⟨(Nat.le_of_ble_eq_true rfl), (Nat.le_of_ble_eq_true rfl), (Nat.le_of_ble_eq_true rfl), (Nat.le_of_ble_eq_true rfl)⟩ ?_
  refine v_catch (pre := []) (x := ⟨0, 14, 17, 15⟩) (suf := [⟨0, 14, 21, 21⟩]) X (by rw [ht]; rfl) (fun z hz => ?_) (by decide) (by decide) wk_L_15 (by decide) (fun q => ?_)
  · cases hz
  refine v_astore6 X rfl (Nat.le_of_ble_eq_true rfl) dL_build_17 ?_
  refine v_ico (v := 1) X dL_build_19 (by decide) ?_
  exact v_iret X hr hlk dL_build_20 ⟨rfl, rfl, rfl, rfl⟩
set_option maxRecDepth 100000 in
set_option maxHeartbeats 4000000 in
theorem w2_build (l : Launch) {z0 n : Nat} {D : va_G} {cy : Nat → ClassId} {ad : Nat → Nat} {g : Nat → va_E} {a0 a1 a2 a3 : Int32} {e0 : va_E} (h0 : vAt n g 0 e0) {fs : List Value} (he : e0 = .inr (4, fs)) (hM : CtX l yX4_build cX4_build 5 (some FieldType.int) 7 120 z0 D cy n ad g [.ref (ad 0), .int a0, .int a1, .int a2, .int a3] eS) : CtW l yL_build cL_build 7 (some FieldType.int) [(0, 14, 17, 15), (0, 14, 21, 21)] 8 144 z0 D cy n ad g [.ref (ad 0), .int a0, .int a1, .int a2, .int a3, .ref (ad 61)] (isR (some (.int 2)) n ad g) := by
  refine ctw_of (by decide +kernel) 1 [some (.ref (ad 0)), some (.int a0), some (.int a1), some (.int a2), some (.int a3), some (.ref (ad 61)), none] (Nat.le_of_ble_eq_true rfl) rfl ?_
  intro p e s m below meth c X ht hr hlk
  refine v_aload X dL_build_0 rfl ?_
  refine v_ico (v := 0) X dL_build_2 (by decide) ?_
  refine v_aload0 X dL_build_3 rfl ?_
  refine v_iload1 X dL_build_4 rfl ?_
  refine v_iload2 X dL_build_5 rfl ?_
  refine v_iload3 X dL_build_6 rfl ?_
  refine v_iload X dL_build_7 rfl ?_
  refine v_callVX (As := [.int a0, .int a1, .int a2, .int a3]) X wm_L_17 wi_X4_build ws_X4_build wz_X4 wc_X4_build ⟨rfl, by decide, by decide, (show (parseMethodDescriptor yX4_build.desc).map (fun d => d.parameters.length) = some 4 from by decide +kernel)⟩ rfl dL_build_9 hM (he ▸ h0) rfl (Nat.le_of_ble_eq_true rfl) ⟨(Nat.le_of_ble_eq_true rfl), (Nat.le_of_ble_eq_true rfl), (Nat.le_of_ble_eq_true rfl), (Nat.le_of_ble_eq_true rfl)⟩ ?_
  refine v_catch (pre := [⟨0, 14, 17, 15⟩]) (x := ⟨0, 14, 21, 21⟩) (suf := []) X (by rw [ht]; rfl) (fun z hz => ?_) (by decide) (by decide) wk_L_21 (by decide) (fun q => ?_)
  · rcases List.mem_cons.mp hz with rfl | hz
    · exact ⟨by decide, _, wk_L_15, by decide⟩
    cases hz
  refine v_astore6 X rfl (Nat.le_of_ble_eq_true rfl) dL_build_21 ?_
  refine v_ico (v := 2) X dL_build_23 (by decide) ?_
  exact v_iret X hr hlk dL_build_24 ⟨rfl, rfl, rfl, rfl⟩
set_option maxRecDepth 100000 in
set_option maxHeartbeats 4000000 in
theorem w_chain (l : Launch) {z0 n : Nat} {D : va_G} {cy : Nat → ClassId} {ad : Nat → Nat} {g : Nat → va_E} {a0 a1 : Int32} {v : Int32} {G : (Nat → va_E) → Prop} {e0 : va_E} (h0 : vAt n g 0 e0) {fs : List Value} (he : e0 = .inr (4, fs)) (hM : CtG l yX4_chain cX4_chain 3 (some FieldType.int) (rmv 7 121) z0 D cy n ad g [.ref (ad 0), .int a0, .int a1] (gP v n ad G) 0 0) (hG : ∀ g1, G g1 → ∃ f, vAt n g1 61 (oA cy f)) : CtW l yL_chain cL_chain 5 (some FieldType.int) [(0, 10, 13, 13), (0, 10, 17, 15), (0, 10, 21, 21)] 8 143 z0 D cy n ad g [.ref (ad 0), .int a0, .int a1, .ref (ad 61)] (wP v.toInt64 cy n ad G) := by
  refine ctw_of (by decide +kernel) 1 [some (.ref (ad 0)), some (.int a0), some (.int a1), some (.ref (ad 61)), none] (Nat.le_of_ble_eq_true rfl) rfl ?_
  intro p e s m below meth c X ht hr hlk
  refine v_aload3 X dL_chain_0 rfl ?_
  refine v_ico (v := 0) X dL_chain_1 (by decide) ?_
  refine v_aload0 X dL_chain_2 rfl ?_
  refine v_iload1 X dL_chain_3 rfl ?_
  refine v_iload2 X dL_chain_4 rfl ?_
  refine v_callV (As := [.int a0, .int a1]) X wm_L_23 wi_X4_chain ws_X4_chain wz_X4 wc_X4_chain ⟨rfl, by decide, by decide, (show (parseMethodDescriptor yX4_chain.desc).map (fun d => d.parameters.length) = some 2 from by decide +kernel)⟩ rfl dL_chain_5 hM (he ▸ h0) rfl (Nat.le_of_ble_eq_true rfl) ⟨rfl, rfl, (Nat.le_of_ble_eq_true rfl), (Nat.le_of_ble_eq_true rfl), (Nat.le_of_ble_eq_true rfl), (Nat.le_of_ble_eq_true rfl)⟩ ?_
  rintro r1 n1 ad1 g1 ⟨rfl, rfl, rfl, hg⟩
  obtain ⟨f, hf⟩ := hG g1 hg
  refine v_i2l X dL_chain_8 ?_
  refine v_last (j := 0) X dL_chain_9 hf rfl (by decide) (by decide) ?_
  refine v_goto (tgt := 25) X dL_chain_10 (by decide) ?_
  refine v_ico (v := 0) X dL_chain_25 (by decide) ?_
  refine vV.wd (k := 1) (n' := 6) (by decide) (by decide) ?_
  exact v_iret X hr hlk dL_chain_26 ⟨rfl, rfl, rfl, g1, vp_updL f 0 v.toInt64, hg, by simp [vp_updL], rfl⟩
set_option maxRecDepth 100000 in
set_option maxHeartbeats 4000000 in
theorem w1_chain (l : Launch) {z0 n : Nat} {D : va_G} {cy : Nat → ClassId} {ad : Nat → Nat} {g : Nat → va_E} {a0 a1 : Int32} {e0 : va_E} (h0 : vAt n g 0 e0) {fs : List Value} (he : e0 = .inr (4, fs)) (hM : CtX l yX4_chain cX4_chain 3 (some FieldType.int) 7 121 z0 D cy n ad g [.ref (ad 0), .int a0, .int a1] eI) : CtW l yL_chain cL_chain 5 (some FieldType.int) [(0, 10, 13, 13), (0, 10, 17, 15), (0, 10, 21, 21)] 8 143 z0 D cy n ad g [.ref (ad 0), .int a0, .int a1, .ref (ad 61)] (isR (some (.int 1)) n ad g) := by
  refine ctw_of (by decide +kernel) 1 [some (.ref (ad 0)), some (.int a0), some (.int a1), some (.ref (ad 61)), none] (Nat.le_of_ble_eq_true rfl) rfl ?_
  intro p e s m below meth c X ht hr hlk
  refine v_aload3 X dL_chain_0 rfl ?_
  refine v_ico (v := 0) X dL_chain_1 (by decide) ?_
  refine v_aload0 X dL_chain_2 rfl ?_
  refine v_iload1 X dL_chain_3 rfl ?_
  refine v_iload2 X dL_chain_4 rfl ?_
  refine v_callVX (As := [.int a0, .int a1]) X wm_L_23 wi_X4_chain ws_X4_chain wz_X4 wc_X4_chain ⟨rfl, by decide, by decide, (show (parseMethodDescriptor yX4_chain.desc).map (fun d => d.parameters.length) = some 2 from by decide +kernel)⟩ rfl dL_chain_5 hM (he ▸ h0) rfl (Nat.le_of_ble_eq_true rfl) ⟨(Nat.le_of_ble_eq_true rfl), (Nat.le_of_ble_eq_true rfl), (Nat.le_of_ble_eq_true rfl), (Nat.le_of_ble_eq_true rfl)⟩ ?_
  refine v_catch (pre := []) (x := ⟨0, 10, 13, 13⟩) (suf := [⟨0, 10, 17, 15⟩, ⟨0, 10, 21, 21⟩]) X (by rw [ht]; rfl) (fun z hz => ?_) (by decide) (by decide) wk_L_13 (by decide) (fun q => ?_)
  · cases hz
  refine v_astore4 X rfl (Nat.le_of_ble_eq_true rfl) dL_chain_13 ?_
  refine v_ico (v := 1) X dL_chain_15 (by decide) ?_
  exact v_iret X hr hlk dL_chain_16 ⟨rfl, rfl, rfl, rfl⟩
set_option maxRecDepth 100000 in
set_option maxHeartbeats 4000000 in
theorem w2_chain (l : Launch) {z0 n : Nat} {D : va_G} {cy : Nat → ClassId} {ad : Nat → Nat} {g : Nat → va_E} {a0 a1 : Int32} {e0 : va_E} (h0 : vAt n g 0 e0) {fs : List Value} (he : e0 = .inr (4, fs)) (hM : CtX l yX4_chain cX4_chain 3 (some FieldType.int) 7 121 z0 D cy n ad g [.ref (ad 0), .int a0, .int a1] eA) : CtW l yL_chain cL_chain 5 (some FieldType.int) [(0, 10, 13, 13), (0, 10, 17, 15), (0, 10, 21, 21)] 8 143 z0 D cy n ad g [.ref (ad 0), .int a0, .int a1, .ref (ad 61)] (isR (some (.int 2)) n ad g) := by
  refine ctw_of (by decide +kernel) 1 [some (.ref (ad 0)), some (.int a0), some (.int a1), some (.ref (ad 61)), none] (Nat.le_of_ble_eq_true rfl) rfl ?_
  intro p e s m below meth c X ht hr hlk
  refine v_aload3 X dL_chain_0 rfl ?_
  refine v_ico (v := 0) X dL_chain_1 (by decide) ?_
  refine v_aload0 X dL_chain_2 rfl ?_
  refine v_iload1 X dL_chain_3 rfl ?_
  refine v_iload2 X dL_chain_4 rfl ?_
  refine v_callVX (As := [.int a0, .int a1]) X wm_L_23 wi_X4_chain ws_X4_chain wz_X4 wc_X4_chain ⟨rfl, by decide, by decide, (show (parseMethodDescriptor yX4_chain.desc).map (fun d => d.parameters.length) = some 2 from by decide +kernel)⟩ rfl dL_chain_5 hM (he ▸ h0) rfl (Nat.le_of_ble_eq_true rfl) ⟨(Nat.le_of_ble_eq_true rfl), (Nat.le_of_ble_eq_true rfl), (Nat.le_of_ble_eq_true rfl), (Nat.le_of_ble_eq_true rfl)⟩ ?_
  refine v_catch (pre := [⟨0, 10, 13, 13⟩]) (x := ⟨0, 10, 17, 15⟩) (suf := [⟨0, 10, 21, 21⟩]) X (by rw [ht]; rfl) (fun z hz => ?_) (by decide) (by decide) wk_L_15 (by decide) (fun q => ?_)
  · rcases List.mem_cons.mp hz with rfl | hz
    · exact ⟨by decide, _, wk_L_13, by decide⟩
    cases hz
  refine v_astore4 X rfl (Nat.le_of_ble_eq_true rfl) dL_chain_17 ?_
  refine v_ico (v := 2) X dL_chain_19 (by decide) ?_
  exact v_iret X hr hlk dL_chain_20 ⟨rfl, rfl, rfl, rfl⟩
set_option maxRecDepth 100000 in
set_option maxHeartbeats 4000000 in
theorem w3_chain (l : Launch) {z0 n : Nat} {D : va_G} {cy : Nat → ClassId} {ad : Nat → Nat} {g : Nat → va_E} {a0 a1 : Int32} {e0 : va_E} (h0 : vAt n g 0 e0) {fs : List Value} (he : e0 = .inr (4, fs)) (hM : CtX l yX4_chain cX4_chain 3 (some FieldType.int) 7 121 z0 D cy n ad g [.ref (ad 0), .int a0, .int a1] eS) : CtW l yL_chain cL_chain 5 (some FieldType.int) [(0, 10, 13, 13), (0, 10, 17, 15), (0, 10, 21, 21)] 8 143 z0 D cy n ad g [.ref (ad 0), .int a0, .int a1, .ref (ad 61)] (isR (some (.int 3)) n ad g) := by
  refine ctw_of (by decide +kernel) 1 [some (.ref (ad 0)), some (.int a0), some (.int a1), some (.ref (ad 61)), none] (Nat.le_of_ble_eq_true rfl) rfl ?_
  intro p e s m below meth c X ht hr hlk
  refine v_aload3 X dL_chain_0 rfl ?_
  refine v_ico (v := 0) X dL_chain_1 (by decide) ?_
  refine v_aload0 X dL_chain_2 rfl ?_
  refine v_iload1 X dL_chain_3 rfl ?_
  refine v_iload2 X dL_chain_4 rfl ?_
  refine v_callVX (As := [.int a0, .int a1]) X wm_L_23 wi_X4_chain ws_X4_chain wz_X4 wc_X4_chain ⟨rfl, by decide, by decide, (show (parseMethodDescriptor yX4_chain.desc).map (fun d => d.parameters.length) = some 2 from by decide +kernel)⟩ rfl dL_chain_5 hM (he ▸ h0) rfl (Nat.le_of_ble_eq_true rfl) ⟨(Nat.le_of_ble_eq_true rfl), (Nat.le_of_ble_eq_true rfl), (Nat.le_of_ble_eq_true rfl), (Nat.le_of_ble_eq_true rfl)⟩ ?_
  refine v_catch (pre := [⟨0, 10, 13, 13⟩, ⟨0, 10, 17, 15⟩]) (x := ⟨0, 10, 21, 21⟩) (suf := []) X (by rw [ht]; rfl) (fun z hz => ?_) (by decide) (by decide) wk_L_21 (by decide) (fun q => ?_)
  · rcases List.mem_cons.mp hz with rfl | hz
    · exact ⟨by decide, _, wk_L_13, by decide⟩
    rcases List.mem_cons.mp hz with rfl | hz
    · exact ⟨by decide, _, wk_L_15, by decide⟩
    cases hz
  refine v_astore4 X rfl (Nat.le_of_ble_eq_true rfl) dL_chain_21 ?_
  refine v_ico (v := 3) X dL_chain_23 (by decide) ?_
  exact v_iret X hr hlk dL_chain_24 ⟨rfl, rfl, rfl, rfl⟩
set_option maxRecDepth 100000 in
set_option maxHeartbeats 4000000 in
theorem w_lay (l : Launch) {z0 n : Nat} {D : va_G} {cy : Nat → ClassId} {ad : Nat → Nat} {g : Nat → va_E} {a0 a1 a2 : Int32} {v : Int32} {G : (Nat → va_E) → Prop} {e0 : va_E} (h0 : vAt n g 0 e0) {fs : List Value} (he : e0 = .inr (4, fs)) (hM : CtG l yX4_lay cX4_lay 4 (some FieldType.int) (rmv 7 121) z0 D cy n ad g [.ref (ad 0), .int a0, .int a1, .int a2] (gP v n ad G) 0 0) (hG : ∀ g1, G g1 → ∃ f, vAt n g1 61 (oA cy f)) : CtW l yL_lay cL_lay 6 (some FieldType.int) [(0, 12, 15, 13), (0, 12, 19, 15), (0, 12, 23, 21)] 8 144 z0 D cy n ad g [.ref (ad 0), .int a0, .int a1, .int a2, .ref (ad 61)] (wP v.toInt64 cy n ad G) := by
  refine ctw_of (by decide +kernel) 1 [some (.ref (ad 0)), some (.int a0), some (.int a1), some (.int a2), some (.ref (ad 61)), none] (Nat.le_of_ble_eq_true rfl) rfl ?_
  intro p e s m below meth c X ht hr hlk
  refine v_aload X dL_lay_0 rfl ?_
  refine v_ico (v := 0) X dL_lay_2 (by decide) ?_
  refine v_aload0 X dL_lay_3 rfl ?_
  refine v_iload1 X dL_lay_4 rfl ?_
  refine v_iload2 X dL_lay_5 rfl ?_
  refine v_iload3 X dL_lay_6 rfl ?_
  refine v_callV (As := [.int a0, .int a1, .int a2]) X wm_L_27 wi_X4_lay ws_X4_lay wz_X4 wc_X4_lay ⟨rfl, by decide, by decide, (show (parseMethodDescriptor yX4_lay.desc).map (fun d => d.parameters.length) = some 3 from by decide +kernel)⟩ rfl dL_lay_7 hM (he ▸ h0) rfl (Nat.le_of_ble_eq_true rfl) ⟨rfl, rfl, (Nat.le_of_ble_eq_true rfl), (Nat.le_of_ble_eq_true rfl), (Nat.le_of_ble_eq_true rfl), (Nat.le_of_ble_eq_true rfl)⟩ ?_
  rintro r1 n1 ad1 g1 ⟨rfl, rfl, rfl, hg⟩
  obtain ⟨f, hf⟩ := hG g1 hg
  refine v_i2l X dL_lay_10 ?_
  refine v_last (j := 0) X dL_lay_11 hf rfl (by decide) (by decide) ?_
  refine v_goto (tgt := 27) X dL_lay_12 (by decide) ?_
  refine v_ico (v := 0) X dL_lay_27 (by decide) ?_
  refine vV.wd (k := 1) (n' := 6) (by decide) (by decide) ?_
  exact v_iret X hr hlk dL_lay_28 ⟨rfl, rfl, rfl, g1, vp_updL f 0 v.toInt64, hg, by simp [vp_updL], rfl⟩
set_option maxRecDepth 100000 in
set_option maxHeartbeats 4000000 in
theorem w1_lay (l : Launch) {z0 n : Nat} {D : va_G} {cy : Nat → ClassId} {ad : Nat → Nat} {g : Nat → va_E} {a0 a1 a2 : Int32} {e0 : va_E} (h0 : vAt n g 0 e0) {fs : List Value} (he : e0 = .inr (4, fs)) (hM : CtX l yX4_lay cX4_lay 4 (some FieldType.int) 7 121 z0 D cy n ad g [.ref (ad 0), .int a0, .int a1, .int a2] eI) : CtW l yL_lay cL_lay 6 (some FieldType.int) [(0, 12, 15, 13), (0, 12, 19, 15), (0, 12, 23, 21)] 8 144 z0 D cy n ad g [.ref (ad 0), .int a0, .int a1, .int a2, .ref (ad 61)] (isR (some (.int 1)) n ad g) := by
  refine ctw_of (by decide +kernel) 1 [some (.ref (ad 0)), some (.int a0), some (.int a1), some (.int a2), some (.ref (ad 61)), none] (Nat.le_of_ble_eq_true rfl) rfl ?_
  intro p e s m below meth c X ht hr hlk
  refine v_aload X dL_lay_0 rfl ?_
  refine v_ico (v := 0) X dL_lay_2 (by decide) ?_
  refine v_aload0 X dL_lay_3 rfl ?_
  refine v_iload1 X dL_lay_4 rfl ?_
  refine v_iload2 X dL_lay_5 rfl ?_
  refine v_iload3 X dL_lay_6 rfl ?_
  refine v_callVX (As := [.int a0, .int a1, .int a2]) X wm_L_27 wi_X4_lay ws_X4_lay wz_X4 wc_X4_lay ⟨rfl, by decide, by decide, (show (parseMethodDescriptor yX4_lay.desc).map (fun d => d.parameters.length) = some 3 from by decide +kernel)⟩ rfl dL_lay_7 hM (he ▸ h0) rfl (Nat.le_of_ble_eq_true rfl) ⟨(Nat.le_of_ble_eq_true rfl), (Nat.le_of_ble_eq_true rfl), (Nat.le_of_ble_eq_true rfl), (Nat.le_of_ble_eq_true rfl)⟩ ?_
  refine v_catch (pre := []) (x := ⟨0, 12, 15, 13⟩) (suf := [⟨0, 12, 19, 15⟩, ⟨0, 12, 23, 21⟩]) X (by rw [ht]; rfl) (fun z hz => ?_) (by decide) (by decide) wk_L_13 (by decide) (fun q => ?_)
  · cases hz
  refine v_astore5 X rfl (Nat.le_of_ble_eq_true rfl) dL_lay_15 ?_
  refine v_ico (v := 1) X dL_lay_17 (by decide) ?_
  exact v_iret X hr hlk dL_lay_18 ⟨rfl, rfl, rfl, rfl⟩
set_option maxRecDepth 100000 in
set_option maxHeartbeats 4000000 in
theorem w2_lay (l : Launch) {z0 n : Nat} {D : va_G} {cy : Nat → ClassId} {ad : Nat → Nat} {g : Nat → va_E} {a0 a1 a2 : Int32} {e0 : va_E} (h0 : vAt n g 0 e0) {fs : List Value} (he : e0 = .inr (4, fs)) (hM : CtX l yX4_lay cX4_lay 4 (some FieldType.int) 7 121 z0 D cy n ad g [.ref (ad 0), .int a0, .int a1, .int a2] eA) : CtW l yL_lay cL_lay 6 (some FieldType.int) [(0, 12, 15, 13), (0, 12, 19, 15), (0, 12, 23, 21)] 8 144 z0 D cy n ad g [.ref (ad 0), .int a0, .int a1, .int a2, .ref (ad 61)] (isR (some (.int 2)) n ad g) := by
  refine ctw_of (by decide +kernel) 1 [some (.ref (ad 0)), some (.int a0), some (.int a1), some (.int a2), some (.ref (ad 61)), none] (Nat.le_of_ble_eq_true rfl) rfl ?_
  intro p e s m below meth c X ht hr hlk
  refine v_aload X dL_lay_0 rfl ?_
  refine v_ico (v := 0) X dL_lay_2 (by decide) ?_
  refine v_aload0 X dL_lay_3 rfl ?_
  refine v_iload1 X dL_lay_4 rfl ?_
  refine v_iload2 X dL_lay_5 rfl ?_
  refine v_iload3 X dL_lay_6 rfl ?_
  refine v_callVX (As := [.int a0, .int a1, .int a2]) X wm_L_27 wi_X4_lay ws_X4_lay wz_X4 wc_X4_lay ⟨rfl, by decide, by decide, (show (parseMethodDescriptor yX4_lay.desc).map (fun d => d.parameters.length) = some 3 from by decide +kernel)⟩ rfl dL_lay_7 hM (he ▸ h0) rfl (Nat.le_of_ble_eq_true rfl) ⟨(Nat.le_of_ble_eq_true rfl), (Nat.le_of_ble_eq_true rfl), (Nat.le_of_ble_eq_true rfl), (Nat.le_of_ble_eq_true rfl)⟩ ?_
  refine v_catch (pre := [⟨0, 12, 15, 13⟩]) (x := ⟨0, 12, 19, 15⟩) (suf := [⟨0, 12, 23, 21⟩]) X (by rw [ht]; rfl) (fun z hz => ?_) (by decide) (by decide) wk_L_15 (by decide) (fun q => ?_)
  · rcases List.mem_cons.mp hz with rfl | hz
    · exact ⟨by decide, _, wk_L_13, by decide⟩
    cases hz
  refine v_astore5 X rfl (Nat.le_of_ble_eq_true rfl) dL_lay_19 ?_
  refine v_ico (v := 2) X dL_lay_21 (by decide) ?_
  exact v_iret X hr hlk dL_lay_22 ⟨rfl, rfl, rfl, rfl⟩
set_option maxRecDepth 100000 in
set_option maxHeartbeats 4000000 in
theorem w3_lay (l : Launch) {z0 n : Nat} {D : va_G} {cy : Nat → ClassId} {ad : Nat → Nat} {g : Nat → va_E} {a0 a1 a2 : Int32} {e0 : va_E} (h0 : vAt n g 0 e0) {fs : List Value} (he : e0 = .inr (4, fs)) (hM : CtX l yX4_lay cX4_lay 4 (some FieldType.int) 7 121 z0 D cy n ad g [.ref (ad 0), .int a0, .int a1, .int a2] eS) : CtW l yL_lay cL_lay 6 (some FieldType.int) [(0, 12, 15, 13), (0, 12, 19, 15), (0, 12, 23, 21)] 8 144 z0 D cy n ad g [.ref (ad 0), .int a0, .int a1, .int a2, .ref (ad 61)] (isR (some (.int 3)) n ad g) := by
  refine ctw_of (by decide +kernel) 1 [some (.ref (ad 0)), some (.int a0), some (.int a1), some (.int a2), some (.ref (ad 61)), none] (Nat.le_of_ble_eq_true rfl) rfl ?_
  intro p e s m below meth c X ht hr hlk
  refine v_aload X dL_lay_0 rfl ?_
  refine v_ico (v := 0) X dL_lay_2 (by decide) ?_
  refine v_aload0 X dL_lay_3 rfl ?_
  refine v_iload1 X dL_lay_4 rfl ?_
  refine v_iload2 X dL_lay_5 rfl ?_
  refine v_iload3 X dL_lay_6 rfl ?_
  refine v_callVX (As := [.int a0, .int a1, .int a2]) X wm_L_27 wi_X4_lay ws_X4_lay wz_X4 wc_X4_lay ⟨rfl, by decide, by decide, (show (parseMethodDescriptor yX4_lay.desc).map (fun d => d.parameters.length) = some 3 from by decide +kernel)⟩ rfl dL_lay_7 hM (he ▸ h0) rfl (Nat.le_of_ble_eq_true rfl) ⟨(Nat.le_of_ble_eq_true rfl), (Nat.le_of_ble_eq_true rfl), (Nat.le_of_ble_eq_true rfl), (Nat.le_of_ble_eq_true rfl)⟩ ?_
  refine v_catch (pre := [⟨0, 12, 15, 13⟩, ⟨0, 12, 19, 15⟩]) (x := ⟨0, 12, 23, 21⟩) (suf := []) X (by rw [ht]; rfl) (fun z hz => ?_) (by decide) (by decide) wk_L_21 (by decide) (fun q => ?_)
  · rcases List.mem_cons.mp hz with rfl | hz
    · exact ⟨by decide, _, wk_L_13, by decide⟩
    rcases List.mem_cons.mp hz with rfl | hz
    · exact ⟨by decide, _, wk_L_15, by decide⟩
    cases hz
  refine v_astore5 X rfl (Nat.le_of_ble_eq_true rfl) dL_lay_23 ?_
  refine v_ico (v := 3) X dL_lay_25 (by decide) ?_
  exact v_iret X hr hlk dL_lay_26 ⟨rfl, rfl, rfl, rfl⟩
set_option maxRecDepth 100000 in
set_option maxHeartbeats 4000000 in
theorem w_turn (l : Launch) {z0 n : Nat} {D : va_G} {cy : Nat → ClassId} {ad : Nat → Nat} {g : Nat → va_E} {a0 a1 : Int32} {v : Int32} {G : (Nat → va_E) → Prop} {e0 : va_E} (h0 : vAt n g 0 e0) {fs : List Value} (he : e0 = .inr (4, fs)) (hv : isB v) (hM : CtG l yX4_turn cX4_turn 4 (some FieldType.boolean) (rmv 7 121) z0 D cy n ad g [.ref (ad 0), .int a0, .int a1] (gP v n ad G) 0 0) (hG : ∀ g1, G g1 → ∃ f, vAt n g1 61 (oA cy f)) : CtW l yL_turn cL_turn 5 (some FieldType.int) [(0, 17, 20, 13)] 8 144 z0 D cy n ad g [.ref (ad 0), .int a0, .int a1, .ref (ad 61)] (wP v.toInt64 cy n ad G) := by
  refine ctw_of (by decide +kernel) 1 [some (.ref (ad 0)), some (.int a0), some (.int a1), some (.ref (ad 61)), none] (Nat.le_of_ble_eq_true rfl) rfl ?_
  intro p e s m below meth c X ht hr hlk
  refine v_aload3 X dL_turn_0 rfl ?_
  refine v_ico (v := 0) X dL_turn_1 (by decide) ?_
  refine v_aload0 X dL_turn_2 rfl ?_
  refine v_iload1 X dL_turn_3 rfl ?_
  refine v_iload2 X dL_turn_4 rfl ?_
  refine v_callV (As := [.int a0, .int a1]) X wm_L_30 wi_X4_turn ws_X4_turn wz_X4 wc_X4_turn ⟨rfl, by decide, by decide, (show (parseMethodDescriptor yX4_turn.desc).map (fun d => d.parameters.length) = some 2 from by decide +kernel)⟩ rfl dL_turn_5 hM (he ▸ h0) rfl (Nat.le_of_ble_eq_true rfl) ⟨rfl, rfl, (Nat.le_of_ble_eq_true rfl), (Nat.le_of_ble_eq_true rfl), (Nat.le_of_ble_eq_true rfl), (Nat.le_of_ble_eq_true rfl)⟩ ?_
  rintro r1 n1 ad1 g1 ⟨rfl, rfl, rfl, hg⟩
  obtain ⟨f, hf⟩ := hG g1 hg
  refine v_if_eq (tgt := 15) X dL_turn_8 (by decide) (fun hc => ?_) (fun hc => ?_)
  · subst hc
    refine v_lco (v := 0) X dL_turn_15 (by decide) ?_
    refine v_last (j := 0) X dL_turn_16 hf rfl (by decide) (by decide) ?_
    refine v_goto (tgt := 24) X dL_turn_17 (by decide) ?_
    refine v_ico (v := 0) X dL_turn_24 (by decide) ?_
    refine vV.wd (k := 1) (n' := 6) (by decide) (by decide) ?_
    exact v_iret X hr hlk dL_turn_25 ⟨rfl, rfl, rfl, g1, vp_updL f 0 0, hg, by simp [vp_updL], rfl⟩
  · have h1 := hv.resolve_left hc
    subst h1
    refine v_lco (v := 1) X dL_turn_11 (by decide) ?_
    refine v_goto (tgt := 16) X dL_turn_12 (by decide) ?_
    refine v_last (j := 0) X dL_turn_16 hf rfl (by decide) (by decide) ?_
    refine v_goto (tgt := 24) X dL_turn_17 (by decide) ?_
    refine v_ico (v := 0) X dL_turn_24 (by decide) ?_
    refine vV.wd (k := 1) (n' := 6) (by decide) (by decide) ?_
    exact v_iret X hr hlk dL_turn_25 ⟨rfl, rfl, rfl, g1, vp_updL f 0 1, hg, by simp [vp_updL], rfl⟩
set_option maxRecDepth 100000 in
set_option maxHeartbeats 4000000 in
theorem w1_turn (l : Launch) {z0 n : Nat} {D : va_G} {cy : Nat → ClassId} {ad : Nat → Nat} {g : Nat → va_E} {a0 a1 : Int32} {e0 : va_E} (h0 : vAt n g 0 e0) {fs : List Value} (he : e0 = .inr (4, fs)) (hM : CtX l yX4_turn cX4_turn 4 (some FieldType.boolean) 7 121 z0 D cy n ad g [.ref (ad 0), .int a0, .int a1] eI) : CtW l yL_turn cL_turn 5 (some FieldType.int) [(0, 17, 20, 13)] 8 144 z0 D cy n ad g [.ref (ad 0), .int a0, .int a1, .ref (ad 61)] (isR (some (.int 1)) n ad g) := by
  refine ctw_of (by decide +kernel) 1 [some (.ref (ad 0)), some (.int a0), some (.int a1), some (.ref (ad 61)), none] (Nat.le_of_ble_eq_true rfl) rfl ?_
  intro p e s m below meth c X ht hr hlk
  refine v_aload3 X dL_turn_0 rfl ?_
  refine v_ico (v := 0) X dL_turn_1 (by decide) ?_
  refine v_aload0 X dL_turn_2 rfl ?_
  refine v_iload1 X dL_turn_3 rfl ?_
  refine v_iload2 X dL_turn_4 rfl ?_
  refine v_callVX (As := [.int a0, .int a1]) X wm_L_30 wi_X4_turn ws_X4_turn wz_X4 wc_X4_turn ⟨rfl, by decide, by decide, (show (parseMethodDescriptor yX4_turn.desc).map (fun d => d.parameters.length) = some 2 from by decide +kernel)⟩ rfl dL_turn_5 hM (he ▸ h0) rfl (Nat.le_of_ble_eq_true rfl) ⟨(Nat.le_of_ble_eq_true rfl), (Nat.le_of_ble_eq_true rfl), (Nat.le_of_ble_eq_true rfl), (Nat.le_of_ble_eq_true rfl)⟩ ?_
  refine v_catch (pre := []) (x := ⟨0, 17, 20, 13⟩) (suf := []) X (by rw [ht]; rfl) (fun z hz => ?_) (by decide) (by decide) wk_L_13 (by decide) (fun q => ?_)
  · cases hz
  refine v_astore4 X rfl (Nat.le_of_ble_eq_true rfl) dL_turn_20 ?_
  refine v_ico (v := 1) X dL_turn_22 (by decide) ?_
  exact v_iret X hr hlk dL_turn_23 ⟨rfl, rfl, rfl, rfl⟩
set_option maxRecDepth 100000 in
set_option maxHeartbeats 4000000 in
theorem w_clean (l : Launch) {z0 n : Nat} {D : va_G} {cy : Nat → ClassId} {ad : Nat → Nat} {g : Nat → va_E} {a0 : Int32} {v : Int32} {G : (Nat → va_E) → Prop} {e0 : va_E} (h0 : vAt n g 0 e0) {fs : List Value} (he : e0 = .inr (4, fs)) (hM : CtG l yX4_clean cX4_clean 3 (some FieldType.int) (rmv 7 121) z0 D cy n ad g [.ref (ad 0), .int a0] (gP v n ad G) 0 0) (hG : ∀ g1, G g1 → ∃ f, vAt n g1 61 (oA cy f)) : CtW l yL_clean cL_clean 4 (some FieldType.int) [(0, 9, 12, 13)] 8 143 z0 D cy n ad g [.ref (ad 0), .int a0, .ref (ad 61)] (wP v.toInt64 cy n ad G) := by
  refine ctw_of (by decide +kernel) 1 [some (.ref (ad 0)), some (.int a0), some (.ref (ad 61)), none] (Nat.le_of_ble_eq_true rfl) rfl ?_
  intro p e s m below meth c X ht hr hlk
  refine v_aload2 X dL_clean_0 rfl ?_
  refine v_ico (v := 0) X dL_clean_1 (by decide) ?_
  refine v_aload0 X dL_clean_2 rfl ?_
  refine v_iload1 X dL_clean_3 rfl ?_
  refine v_callV (As := [.int a0]) X wm_L_34 wi_X4_clean ws_X4_clean wz_X4 wc_X4_clean ⟨rfl, by decide, by decide, (show (parseMethodDescriptor yX4_clean.desc).map (fun d => d.parameters.length) = some 1 from by decide +kernel)⟩ rfl dL_clean_4 hM (he ▸ h0) rfl (Nat.le_of_ble_eq_true rfl) ⟨rfl, rfl, (Nat.le_of_ble_eq_true rfl), (Nat.le_of_ble_eq_true rfl), (Nat.le_of_ble_eq_true rfl), (Nat.le_of_ble_eq_true rfl)⟩ ?_
  rintro r1 n1 ad1 g1 ⟨rfl, rfl, rfl, hg⟩
  obtain ⟨f, hf⟩ := hG g1 hg
  refine v_i2l X dL_clean_7 ?_
  refine v_last (j := 0) X dL_clean_8 hf rfl (by decide) (by decide) ?_
  refine v_goto (tgt := 15) X dL_clean_9 (by decide) ?_
  refine v_ico (v := 0) X dL_clean_15 (by decide) ?_
  refine vV.wd (k := 1) (n' := 6) (by decide) (by decide) ?_
  exact v_iret X hr hlk dL_clean_16 ⟨rfl, rfl, rfl, g1, vp_updL f 0 v.toInt64, hg, by simp [vp_updL], rfl⟩
set_option maxRecDepth 100000 in
set_option maxHeartbeats 4000000 in
theorem w1_clean (l : Launch) {z0 n : Nat} {D : va_G} {cy : Nat → ClassId} {ad : Nat → Nat} {g : Nat → va_E} {a0 : Int32} {e0 : va_E} (h0 : vAt n g 0 e0) {fs : List Value} (he : e0 = .inr (4, fs)) (hM : CtX l yX4_clean cX4_clean 3 (some FieldType.int) 7 121 z0 D cy n ad g [.ref (ad 0), .int a0] eI) : CtW l yL_clean cL_clean 4 (some FieldType.int) [(0, 9, 12, 13)] 8 143 z0 D cy n ad g [.ref (ad 0), .int a0, .ref (ad 61)] (isR (some (.int 1)) n ad g) := by
  refine ctw_of (by decide +kernel) 1 [some (.ref (ad 0)), some (.int a0), some (.ref (ad 61)), none] (Nat.le_of_ble_eq_true rfl) rfl ?_
  intro p e s m below meth c X ht hr hlk
  refine v_aload2 X dL_clean_0 rfl ?_
  refine v_ico (v := 0) X dL_clean_1 (by decide) ?_
  refine v_aload0 X dL_clean_2 rfl ?_
  refine v_iload1 X dL_clean_3 rfl ?_
  refine v_callVX (As := [.int a0]) X wm_L_34 wi_X4_clean ws_X4_clean wz_X4 wc_X4_clean ⟨rfl, by decide, by decide, (show (parseMethodDescriptor yX4_clean.desc).map (fun d => d.parameters.length) = some 1 from by decide +kernel)⟩ rfl dL_clean_4 hM (he ▸ h0) rfl (Nat.le_of_ble_eq_true rfl) ⟨(Nat.le_of_ble_eq_true rfl), (Nat.le_of_ble_eq_true rfl), (Nat.le_of_ble_eq_true rfl), (Nat.le_of_ble_eq_true rfl)⟩ ?_
  refine v_catch (pre := []) (x := ⟨0, 9, 12, 13⟩) (suf := []) X (by rw [ht]; rfl) (fun z hz => ?_) (by decide) (by decide) wk_L_13 (by decide) (fun q => ?_)
  · cases hz
  refine v_astore3 X rfl (Nat.le_of_ble_eq_true rfl) dL_clean_12 ?_
  refine v_ico (v := 1) X dL_clean_13 (by decide) ?_
  exact v_iret X hr hlk dL_clean_14 ⟨rfl, rfl, rfl, rfl⟩
set_option maxRecDepth 100000 in
set_option maxHeartbeats 4000000 in
theorem w_cart (l : Launch) {z0 n : Nat} {D : va_G} {cy : Nat → ClassId} {ad : Nat → Nat} {g : Nat → va_E} {a0 a1 : Int32} {v : Int32} {G : (Nat → va_E) → Prop} {e0 : va_E} (h0 : vAt n g 0 e0) {fs : List Value} (he : e0 = .inr (4, fs)) (hM : CtG l yX4_cart cX4_cart 3 (some FieldType.int) (rmv 7 121) z0 D cy n ad g [.ref (ad 0), .int a0, .int a1] (gP v n ad G) 0 0) (hG : ∀ g1, G g1 → ∃ f, vAt n g1 61 (oA cy f)) : CtW l yL_cart cL_cart 5 (some FieldType.int) [(0, 10, 13, 13), (0, 10, 17, 15)] 8 143 z0 D cy n ad g [.ref (ad 0), .int a0, .int a1, .ref (ad 61)] (wP v.toInt64 cy n ad G) := by
  refine ctw_of (by decide +kernel) 1 [some (.ref (ad 0)), some (.int a0), some (.int a1), some (.ref (ad 61)), none] (Nat.le_of_ble_eq_true rfl) rfl ?_
  intro p e s m below meth c X ht hr hlk
  refine v_aload3 X dL_cart_0 rfl ?_
  refine v_ico (v := 0) X dL_cart_1 (by decide) ?_
  refine v_aload0 X dL_cart_2 rfl ?_
  refine v_iload1 X dL_cart_3 rfl ?_
  refine v_iload2 X dL_cart_4 rfl ?_
  refine v_callV (As := [.int a0, .int a1]) X wm_L_38 wi_X4_cart ws_X4_cart wz_X4 wc_X4_cart ⟨rfl, by decide, by decide, (show (parseMethodDescriptor yX4_cart.desc).map (fun d => d.parameters.length) = some 2 from by decide +kernel)⟩ rfl dL_cart_5 hM (he ▸ h0) rfl (Nat.le_of_ble_eq_true rfl) ⟨rfl, rfl, (Nat.le_of_ble_eq_true rfl), (Nat.le_of_ble_eq_true rfl), (Nat.le_of_ble_eq_true rfl), (Nat.le_of_ble_eq_true rfl)⟩ ?_
  rintro r1 n1 ad1 g1 ⟨rfl, rfl, rfl, hg⟩
  obtain ⟨f, hf⟩ := hG g1 hg
  refine v_i2l X dL_cart_8 ?_
  refine v_last (j := 0) X dL_cart_9 hf rfl (by decide) (by decide) ?_
  refine v_goto (tgt := 21) X dL_cart_10 (by decide) ?_
  refine v_ico (v := 0) X dL_cart_21 (by decide) ?_
  refine vV.wd (k := 1) (n' := 6) (by decide) (by decide) ?_
  exact v_iret X hr hlk dL_cart_22 ⟨rfl, rfl, rfl, g1, vp_updL f 0 v.toInt64, hg, by simp [vp_updL], rfl⟩
set_option maxRecDepth 100000 in
set_option maxHeartbeats 4000000 in
theorem w1_cart (l : Launch) {z0 n : Nat} {D : va_G} {cy : Nat → ClassId} {ad : Nat → Nat} {g : Nat → va_E} {a0 a1 : Int32} {e0 : va_E} (h0 : vAt n g 0 e0) {fs : List Value} (he : e0 = .inr (4, fs)) (hM : CtX l yX4_cart cX4_cart 3 (some FieldType.int) 7 121 z0 D cy n ad g [.ref (ad 0), .int a0, .int a1] eI) : CtW l yL_cart cL_cart 5 (some FieldType.int) [(0, 10, 13, 13), (0, 10, 17, 15)] 8 143 z0 D cy n ad g [.ref (ad 0), .int a0, .int a1, .ref (ad 61)] (isR (some (.int 1)) n ad g) := by
  refine ctw_of (by decide +kernel) 1 [some (.ref (ad 0)), some (.int a0), some (.int a1), some (.ref (ad 61)), none] (Nat.le_of_ble_eq_true rfl) rfl ?_
  intro p e s m below meth c X ht hr hlk
  refine v_aload3 X dL_cart_0 rfl ?_
  refine v_ico (v := 0) X dL_cart_1 (by decide) ?_
  refine v_aload0 X dL_cart_2 rfl ?_
  refine v_iload1 X dL_cart_3 rfl ?_
  refine v_iload2 X dL_cart_4 rfl ?_
  refine v_callVX (As := [.int a0, .int a1]) X wm_L_38 wi_X4_cart ws_X4_cart wz_X4 wc_X4_cart ⟨rfl, by decide, by decide, (show (parseMethodDescriptor yX4_cart.desc).map (fun d => d.parameters.length) = some 2 from by decide +kernel)⟩ rfl dL_cart_5 hM (he ▸ h0) rfl (Nat.le_of_ble_eq_true rfl) ⟨(Nat.le_of_ble_eq_true rfl), (Nat.le_of_ble_eq_true rfl), (Nat.le_of_ble_eq_true rfl), (Nat.le_of_ble_eq_true rfl)⟩ ?_
  refine v_catch (pre := []) (x := ⟨0, 10, 13, 13⟩) (suf := [⟨0, 10, 17, 15⟩]) X (by rw [ht]; rfl) (fun z hz => ?_) (by decide) (by decide) wk_L_13 (by decide) (fun q => ?_)
  · cases hz
  refine v_astore4 X rfl (Nat.le_of_ble_eq_true rfl) dL_cart_13 ?_
  refine v_ico (v := 1) X dL_cart_15 (by decide) ?_
  exact v_iret X hr hlk dL_cart_16 ⟨rfl, rfl, rfl, rfl⟩
set_option maxRecDepth 100000 in
set_option maxHeartbeats 4000000 in
theorem w2_cart (l : Launch) {z0 n : Nat} {D : va_G} {cy : Nat → ClassId} {ad : Nat → Nat} {g : Nat → va_E} {a0 a1 : Int32} {e0 : va_E} (h0 : vAt n g 0 e0) {fs : List Value} (he : e0 = .inr (4, fs)) (hM : CtX l yX4_cart cX4_cart 3 (some FieldType.int) 7 121 z0 D cy n ad g [.ref (ad 0), .int a0, .int a1] eA) : CtW l yL_cart cL_cart 5 (some FieldType.int) [(0, 10, 13, 13), (0, 10, 17, 15)] 8 143 z0 D cy n ad g [.ref (ad 0), .int a0, .int a1, .ref (ad 61)] (isR (some (.int 2)) n ad g) := by
  refine ctw_of (by decide +kernel) 1 [some (.ref (ad 0)), some (.int a0), some (.int a1), some (.ref (ad 61)), none] (Nat.le_of_ble_eq_true rfl) rfl ?_
  intro p e s m below meth c X ht hr hlk
  refine v_aload3 X dL_cart_0 rfl ?_
  refine v_ico (v := 0) X dL_cart_1 (by decide) ?_
  refine v_aload0 X dL_cart_2 rfl ?_
  refine v_iload1 X dL_cart_3 rfl ?_
  refine v_iload2 X dL_cart_4 rfl ?_
  refine v_callVX (As := [.int a0, .int a1]) X wm_L_38 wi_X4_cart ws_X4_cart wz_X4 wc_X4_cart ⟨rfl, by decide, by decide, (show (parseMethodDescriptor yX4_cart.desc).map (fun d => d.parameters.length) = some 2 from by decide +kernel)⟩ rfl dL_cart_5 hM (he ▸ h0) rfl (Nat.le_of_ble_eq_true rfl) ⟨(Nat.le_of_ble_eq_true rfl), (Nat.le_of_ble_eq_true rfl), (Nat.le_of_ble_eq_true rfl), (Nat.le_of_ble_eq_true rfl)⟩ ?_
  refine v_catch (pre := [⟨0, 10, 13, 13⟩]) (x := ⟨0, 10, 17, 15⟩) (suf := []) X (by rw [ht]; rfl) (fun z hz => ?_) (by decide) (by decide) wk_L_15 (by decide) (fun q => ?_)
  · rcases List.mem_cons.mp hz with rfl | hz
    · exact ⟨by decide, _, wk_L_13, by decide⟩
    cases hz
  refine v_astore4 X rfl (Nat.le_of_ble_eq_true rfl) dL_cart_17 ?_
  refine v_ico (v := 2) X dL_cart_19 (by decide) ?_
  exact v_iret X hr hlk dL_cart_20 ⟨rfl, rfl, rfl, rfl⟩
set_option maxRecDepth 100000 in
set_option maxHeartbeats 4000000 in
theorem w_setPeople (l : Launch) {z0 n : Nat} {D : va_G} {cy : Nat → ClassId} {ad : Nat → Nat} {g : Nat → va_E} {a0 a1 : Int32} {v : Int32} {G : (Nat → va_E) → Prop} {e0 : va_E} (h0 : vAt n g 0 e0) {fs : List Value} (he : e0 = .inr (4, fs)) (hM : CtG l yX4_setPeople cX4_setPeople 4 (some FieldType.int) (rmv 7 121) z0 D cy n ad g [.ref (ad 0), .int a0, .int a1] (gP v n ad G) 0 0) (hG : ∀ g1, G g1 → ∃ f, vAt n g1 61 (oA cy f)) : CtW l yL_setPeople cL_setPeople 5 (some FieldType.int) [(0, 10, 13, 13), (0, 10, 17, 15)] 8 144 z0 D cy n ad g [.ref (ad 0), .int a0, .int a1, .ref (ad 61)] (wP v.toInt64 cy n ad G) := by
  refine ctw_of (by decide +kernel) 1 [some (.ref (ad 0)), some (.int a0), some (.int a1), some (.ref (ad 61)), none] (Nat.le_of_ble_eq_true rfl) rfl ?_
  intro p e s m below meth c X ht hr hlk
  refine v_aload3 X dL_setPeople_0 rfl ?_
  refine v_ico (v := 0) X dL_setPeople_1 (by decide) ?_
  refine v_aload0 X dL_setPeople_2 rfl ?_
  refine v_iload1 X dL_setPeople_3 rfl ?_
  refine v_iload2 X dL_setPeople_4 rfl ?_
  refine v_callV (As := [.int a0, .int a1]) X wm_L_41 wi_X4_setPeople ws_X4_setPeople wz_X4 wc_X4_setPeople ⟨rfl, by decide, by decide, (show (parseMethodDescriptor yX4_setPeople.desc).map (fun d => d.parameters.length) = some 2 from by decide +kernel)⟩ rfl dL_setPeople_5 hM (he ▸ h0) rfl (Nat.le_of_ble_eq_true rfl) ⟨rfl, rfl, (Nat.le_of_ble_eq_true rfl), (Nat.le_of_ble_eq_true rfl), (Nat.le_of_ble_eq_true rfl), (Nat.le_of_ble_eq_true rfl)⟩ ?_
  rintro r1 n1 ad1 g1 ⟨rfl, rfl, rfl, hg⟩
  obtain ⟨f, hf⟩ := hG g1 hg
  refine v_i2l X dL_setPeople_8 ?_
  refine v_last (j := 0) X dL_setPeople_9 hf rfl (by decide) (by decide) ?_
  refine v_goto (tgt := 21) X dL_setPeople_10 (by decide) ?_
  refine v_ico (v := 0) X dL_setPeople_21 (by decide) ?_
  refine vV.wd (k := 1) (n' := 6) (by decide) (by decide) ?_
  exact v_iret X hr hlk dL_setPeople_22 ⟨rfl, rfl, rfl, g1, vp_updL f 0 v.toInt64, hg, by simp [vp_updL], rfl⟩
set_option maxRecDepth 100000 in
set_option maxHeartbeats 4000000 in
theorem w1_setPeople (l : Launch) {z0 n : Nat} {D : va_G} {cy : Nat → ClassId} {ad : Nat → Nat} {g : Nat → va_E} {a0 a1 : Int32} {e0 : va_E} (h0 : vAt n g 0 e0) {fs : List Value} (he : e0 = .inr (4, fs)) (hM : CtX l yX4_setPeople cX4_setPeople 4 (some FieldType.int) 7 121 z0 D cy n ad g [.ref (ad 0), .int a0, .int a1] eI) : CtW l yL_setPeople cL_setPeople 5 (some FieldType.int) [(0, 10, 13, 13), (0, 10, 17, 15)] 8 144 z0 D cy n ad g [.ref (ad 0), .int a0, .int a1, .ref (ad 61)] (isR (some (.int 1)) n ad g) := by
  refine ctw_of (by decide +kernel) 1 [some (.ref (ad 0)), some (.int a0), some (.int a1), some (.ref (ad 61)), none] (Nat.le_of_ble_eq_true rfl) rfl ?_
  intro p e s m below meth c X ht hr hlk
  refine v_aload3 X dL_setPeople_0 rfl ?_
  refine v_ico (v := 0) X dL_setPeople_1 (by decide) ?_
  refine v_aload0 X dL_setPeople_2 rfl ?_
  refine v_iload1 X dL_setPeople_3 rfl ?_
  refine v_iload2 X dL_setPeople_4 rfl ?_
  refine v_callVX (As := [.int a0, .int a1]) X wm_L_41 wi_X4_setPeople ws_X4_setPeople wz_X4 wc_X4_setPeople ⟨rfl, by decide, by decide, (show (parseMethodDescriptor yX4_setPeople.desc).map (fun d => d.parameters.length) = some 2 from by decide +kernel)⟩ rfl dL_setPeople_5 hM (he ▸ h0) rfl (Nat.le_of_ble_eq_true rfl) ⟨(Nat.le_of_ble_eq_true rfl), (Nat.le_of_ble_eq_true rfl), (Nat.le_of_ble_eq_true rfl), (Nat.le_of_ble_eq_true rfl)⟩ ?_
  refine v_catch (pre := []) (x := ⟨0, 10, 13, 13⟩) (suf := [⟨0, 10, 17, 15⟩]) X (by rw [ht]; rfl) (fun z hz => ?_) (by decide) (by decide) wk_L_13 (by decide) (fun q => ?_)
  · cases hz
  refine v_astore4 X rfl (Nat.le_of_ble_eq_true rfl) dL_setPeople_13 ?_
  refine v_ico (v := 1) X dL_setPeople_15 (by decide) ?_
  exact v_iret X hr hlk dL_setPeople_16 ⟨rfl, rfl, rfl, rfl⟩
set_option maxRecDepth 100000 in
set_option maxHeartbeats 4000000 in
theorem w2_setPeople (l : Launch) {z0 n : Nat} {D : va_G} {cy : Nat → ClassId} {ad : Nat → Nat} {g : Nat → va_E} {a0 a1 : Int32} {e0 : va_E} (h0 : vAt n g 0 e0) {fs : List Value} (he : e0 = .inr (4, fs)) (hM : CtX l yX4_setPeople cX4_setPeople 4 (some FieldType.int) 7 121 z0 D cy n ad g [.ref (ad 0), .int a0, .int a1] eA) : CtW l yL_setPeople cL_setPeople 5 (some FieldType.int) [(0, 10, 13, 13), (0, 10, 17, 15)] 8 144 z0 D cy n ad g [.ref (ad 0), .int a0, .int a1, .ref (ad 61)] (isR (some (.int 2)) n ad g) := by
  refine ctw_of (by decide +kernel) 1 [some (.ref (ad 0)), some (.int a0), some (.int a1), some (.ref (ad 61)), none] (Nat.le_of_ble_eq_true rfl) rfl ?_
  intro p e s m below meth c X ht hr hlk
  refine v_aload3 X dL_setPeople_0 rfl ?_
  refine v_ico (v := 0) X dL_setPeople_1 (by decide) ?_
  refine v_aload0 X dL_setPeople_2 rfl ?_
  refine v_iload1 X dL_setPeople_3 rfl ?_
  refine v_iload2 X dL_setPeople_4 rfl ?_
  refine v_callVX (As := [.int a0, .int a1]) X wm_L_41 wi_X4_setPeople ws_X4_setPeople wz_X4 wc_X4_setPeople ⟨rfl, by decide, by decide, (show (parseMethodDescriptor yX4_setPeople.desc).map (fun d => d.parameters.length) = some 2 from by decide +kernel)⟩ rfl dL_setPeople_5 hM (he ▸ h0) rfl (Nat.le_of_ble_eq_true rfl) ⟨(Nat.le_of_ble_eq_true rfl), (Nat.le_of_ble_eq_true rfl), (Nat.le_of_ble_eq_true rfl), (Nat.le_of_ble_eq_true rfl)⟩ ?_
  refine v_catch (pre := [⟨0, 10, 13, 13⟩]) (x := ⟨0, 10, 17, 15⟩) (suf := []) X (by rw [ht]; rfl) (fun z hz => ?_) (by decide) (by decide) wk_L_15 (by decide) (fun q => ?_)
  · rcases List.mem_cons.mp hz with rfl | hz
    · exact ⟨by decide, _, wk_L_13, by decide⟩
    cases hz
  refine v_astore4 X rfl (Nat.le_of_ble_eq_true rfl) dL_setPeople_17 ?_
  refine v_ico (v := 2) X dL_setPeople_19 (by decide) ?_
  exact v_iret X hr hlk dL_setPeople_20 ⟨rfl, rfl, rfl, rfl⟩
set_option maxRecDepth 100000 in
set_option maxHeartbeats 4000000 in
theorem w_house (l : Launch) {z0 n : Nat} {D : va_G} {cy : Nat → ClassId} {ad : Nat → Nat} {g : Nat → va_E} {a0 a1 : Int32} {v : Int32} {G : (Nat → va_E) → Prop} {e0 : va_E} (h0 : vAt n g 0 e0) {fs : List Value} (he : e0 = .inr (4, fs)) (hM : CtG l yX4_house cX4_house 3 (some FieldType.int) (rmv 7 121) z0 D cy n ad g [.ref (ad 0), .int a0, .int a1] (gP v n ad G) 0 0) (hG : ∀ g1, G g1 → ∃ f, vAt n g1 61 (oA cy f)) : CtW l yL_house cL_house 5 (some FieldType.int) [(0, 10, 13, 13)] 8 143 z0 D cy n ad g [.ref (ad 0), .int a0, .int a1, .ref (ad 61)] (wP v.toInt64 cy n ad G) := by
  refine ctw_of (by decide +kernel) 1 [some (.ref (ad 0)), some (.int a0), some (.int a1), some (.ref (ad 61)), none] (Nat.le_of_ble_eq_true rfl) rfl ?_
  intro p e s m below meth c X ht hr hlk
  refine v_aload3 X dL_house_0 rfl ?_
  refine v_ico (v := 0) X dL_house_1 (by decide) ?_
  refine v_aload0 X dL_house_2 rfl ?_
  refine v_iload1 X dL_house_3 rfl ?_
  refine v_iload2 X dL_house_4 rfl ?_
  refine v_callV (As := [.int a0, .int a1]) X wm_L_44 wi_X4_house ws_X4_house wz_X4 wc_X4_house ⟨rfl, by decide, by decide, (show (parseMethodDescriptor yX4_house.desc).map (fun d => d.parameters.length) = some 2 from by decide +kernel)⟩ rfl dL_house_5 hM (he ▸ h0) rfl (Nat.le_of_ble_eq_true rfl) ⟨rfl, rfl, (Nat.le_of_ble_eq_true rfl), (Nat.le_of_ble_eq_true rfl), (Nat.le_of_ble_eq_true rfl), (Nat.le_of_ble_eq_true rfl)⟩ ?_
  rintro r1 n1 ad1 g1 ⟨rfl, rfl, rfl, hg⟩
  obtain ⟨f, hf⟩ := hG g1 hg
  refine v_i2l X dL_house_8 ?_
  refine v_last (j := 0) X dL_house_9 hf rfl (by decide) (by decide) ?_
  refine v_goto (tgt := 17) X dL_house_10 (by decide) ?_
  refine v_ico (v := 0) X dL_house_17 (by decide) ?_
  refine vV.wd (k := 1) (n' := 6) (by decide) (by decide) ?_
  exact v_iret X hr hlk dL_house_18 ⟨rfl, rfl, rfl, g1, vp_updL f 0 v.toInt64, hg, by simp [vp_updL], rfl⟩
set_option maxRecDepth 100000 in
set_option maxHeartbeats 4000000 in
theorem w1_house (l : Launch) {z0 n : Nat} {D : va_G} {cy : Nat → ClassId} {ad : Nat → Nat} {g : Nat → va_E} {a0 a1 : Int32} {e0 : va_E} (h0 : vAt n g 0 e0) {fs : List Value} (he : e0 = .inr (4, fs)) (hM : CtX l yX4_house cX4_house 3 (some FieldType.int) 7 121 z0 D cy n ad g [.ref (ad 0), .int a0, .int a1] eI) : CtW l yL_house cL_house 5 (some FieldType.int) [(0, 10, 13, 13)] 8 143 z0 D cy n ad g [.ref (ad 0), .int a0, .int a1, .ref (ad 61)] (isR (some (.int 1)) n ad g) := by
  refine ctw_of (by decide +kernel) 1 [some (.ref (ad 0)), some (.int a0), some (.int a1), some (.ref (ad 61)), none] (Nat.le_of_ble_eq_true rfl) rfl ?_
  intro p e s m below meth c X ht hr hlk
  refine v_aload3 X dL_house_0 rfl ?_
  refine v_ico (v := 0) X dL_house_1 (by decide) ?_
  refine v_aload0 X dL_house_2 rfl ?_
  refine v_iload1 X dL_house_3 rfl ?_
  refine v_iload2 X dL_house_4 rfl ?_
  refine v_callVX (As := [.int a0, .int a1]) X wm_L_44 wi_X4_house ws_X4_house wz_X4 wc_X4_house ⟨rfl, by decide, by decide, (show (parseMethodDescriptor yX4_house.desc).map (fun d => d.parameters.length) = some 2 from by decide +kernel)⟩ rfl dL_house_5 hM (he ▸ h0) rfl (Nat.le_of_ble_eq_true rfl) ⟨(Nat.le_of_ble_eq_true rfl), (Nat.le_of_ble_eq_true rfl), (Nat.le_of_ble_eq_true rfl), (Nat.le_of_ble_eq_true rfl)⟩ ?_
  refine v_catch (pre := []) (x := ⟨0, 10, 13, 13⟩) (suf := []) X (by rw [ht]; rfl) (fun z hz => ?_) (by decide) (by decide) wk_L_13 (by decide) (fun q => ?_)
  · cases hz
  refine v_astore4 X rfl (Nat.le_of_ble_eq_true rfl) dL_house_13 ?_
  refine v_ico (v := 1) X dL_house_15 (by decide) ?_
  exact v_iret X hr hlk dL_house_16 ⟨rfl, rfl, rfl, rfl⟩
set_option maxRecDepth 100000 in
set_option maxHeartbeats 4000000 in
theorem w_pipe (l : Launch) {z0 n : Nat} {D : va_G} {cy : Nat → ClassId} {ad : Nat → Nat} {g : Nat → va_E} {a0 a1 : Int32} {v : Int32} {G : (Nat → va_E) → Prop} {e0 : va_E} (h0 : vAt n g 0 e0) {fs : List Value} (he : e0 = .inr (4, fs)) (hM : CtG l yX4_pipe cX4_pipe 3 (some FieldType.int) (rmv 7 121) z0 D cy n ad g [.ref (ad 0), .int a0, .int a1] (gP v n ad G) 0 0) (hG : ∀ g1, G g1 → ∃ f, vAt n g1 61 (oA cy f)) : CtW l yL_pipe cL_pipe 5 (some FieldType.int) [(0, 10, 13, 13)] 8 143 z0 D cy n ad g [.ref (ad 0), .int a0, .int a1, .ref (ad 61)] (wP v.toInt64 cy n ad G) := by
  refine ctw_of (by decide +kernel) 1 [some (.ref (ad 0)), some (.int a0), some (.int a1), some (.ref (ad 61)), none] (Nat.le_of_ble_eq_true rfl) rfl ?_
  intro p e s m below meth c X ht hr hlk
  refine v_aload3 X dL_pipe_0 rfl ?_
  refine v_ico (v := 0) X dL_pipe_1 (by decide) ?_
  refine v_aload0 X dL_pipe_2 rfl ?_
  refine v_iload1 X dL_pipe_3 rfl ?_
  refine v_iload2 X dL_pipe_4 rfl ?_
  refine v_callV (As := [.int a0, .int a1]) X wm_L_47 wi_X4_pipe ws_X4_pipe wz_X4 wc_X4_pipe ⟨rfl, by decide, by decide, (show (parseMethodDescriptor yX4_pipe.desc).map (fun d => d.parameters.length) = some 2 from by decide +kernel)⟩ rfl dL_pipe_5 hM (he ▸ h0) rfl (Nat.le_of_ble_eq_true rfl) ⟨rfl, rfl, (Nat.le_of_ble_eq_true rfl), (Nat.le_of_ble_eq_true rfl), (Nat.le_of_ble_eq_true rfl), (Nat.le_of_ble_eq_true rfl)⟩ ?_
  rintro r1 n1 ad1 g1 ⟨rfl, rfl, rfl, hg⟩
  obtain ⟨f, hf⟩ := hG g1 hg
  refine v_i2l X dL_pipe_8 ?_
  refine v_last (j := 0) X dL_pipe_9 hf rfl (by decide) (by decide) ?_
  refine v_goto (tgt := 17) X dL_pipe_10 (by decide) ?_
  refine v_ico (v := 0) X dL_pipe_17 (by decide) ?_
  refine vV.wd (k := 1) (n' := 6) (by decide) (by decide) ?_
  exact v_iret X hr hlk dL_pipe_18 ⟨rfl, rfl, rfl, g1, vp_updL f 0 v.toInt64, hg, by simp [vp_updL], rfl⟩
set_option maxRecDepth 100000 in
set_option maxHeartbeats 4000000 in
theorem w1_pipe (l : Launch) {z0 n : Nat} {D : va_G} {cy : Nat → ClassId} {ad : Nat → Nat} {g : Nat → va_E} {a0 a1 : Int32} {e0 : va_E} (h0 : vAt n g 0 e0) {fs : List Value} (he : e0 = .inr (4, fs)) (hM : CtX l yX4_pipe cX4_pipe 3 (some FieldType.int) 7 121 z0 D cy n ad g [.ref (ad 0), .int a0, .int a1] eI) : CtW l yL_pipe cL_pipe 5 (some FieldType.int) [(0, 10, 13, 13)] 8 143 z0 D cy n ad g [.ref (ad 0), .int a0, .int a1, .ref (ad 61)] (isR (some (.int 1)) n ad g) := by
  refine ctw_of (by decide +kernel) 1 [some (.ref (ad 0)), some (.int a0), some (.int a1), some (.ref (ad 61)), none] (Nat.le_of_ble_eq_true rfl) rfl ?_
  intro p e s m below meth c X ht hr hlk
  refine v_aload3 X dL_pipe_0 rfl ?_
  refine v_ico (v := 0) X dL_pipe_1 (by decide) ?_
  refine v_aload0 X dL_pipe_2 rfl ?_
  refine v_iload1 X dL_pipe_3 rfl ?_
  refine v_iload2 X dL_pipe_4 rfl ?_
  refine v_callVX (As := [.int a0, .int a1]) X wm_L_47 wi_X4_pipe ws_X4_pipe wz_X4 wc_X4_pipe ⟨rfl, by decide, by decide, (show (parseMethodDescriptor yX4_pipe.desc).map (fun d => d.parameters.length) = some 2 from by decide +kernel)⟩ rfl dL_pipe_5 hM (he ▸ h0) rfl (Nat.le_of_ble_eq_true rfl) ⟨(Nat.le_of_ble_eq_true rfl), (Nat.le_of_ble_eq_true rfl), (Nat.le_of_ble_eq_true rfl), (Nat.le_of_ble_eq_true rfl)⟩ ?_
  refine v_catch (pre := []) (x := ⟨0, 10, 13, 13⟩) (suf := []) X (by rw [ht]; rfl) (fun z hz => ?_) (by decide) (by decide) wk_L_13 (by decide) (fun q => ?_)
  · cases hz
  refine v_astore4 X rfl (Nat.le_of_ble_eq_true rfl) dL_pipe_13 ?_
  refine v_ico (v := 1) X dL_pipe_15 (by decide) ?_
  exact v_iret X hr hlk dL_pipe_16 ⟨rfl, rfl, rfl, rfl⟩
set_option maxRecDepth 100000 in
set_option maxHeartbeats 4000000 in
theorem w_owes (l : Launch) {z0 n : Nat} {D : va_G} {cy : Nat → ClassId} {ad : Nat → Nat} {g : Nat → va_E} {a0 a1 : Int32} {v : Int32} {G : (Nat → va_E) → Prop} {e0 : va_E} (h0 : vAt n g 0 e0) {fs : List Value} (he : e0 = .inr (4, fs)) (hM : CtG l yX4_owes cX4_owes 3 (some FieldType.int) (rmv 7 121) z0 D cy n ad g [.ref (ad 0), .int a0, .int a1] (gP v n ad G) 0 0) (hG : ∀ g1, G g1 → ∃ f, vAt n g1 61 (oA cy f)) : CtW l yL_owes cL_owes 5 (some FieldType.int) [(0, 10, 13, 13)] 8 143 z0 D cy n ad g [.ref (ad 0), .int a0, .int a1, .ref (ad 61)] (wP v.toInt64 cy n ad G) := by
  refine ctw_of (by decide +kernel) 1 [some (.ref (ad 0)), some (.int a0), some (.int a1), some (.ref (ad 61)), none] (Nat.le_of_ble_eq_true rfl) rfl ?_
  intro p e s m below meth c X ht hr hlk
  refine v_aload3 X dL_owes_0 rfl ?_
  refine v_ico (v := 0) X dL_owes_1 (by decide) ?_
  refine v_aload0 X dL_owes_2 rfl ?_
  refine v_iload1 X dL_owes_3 rfl ?_
  refine v_iload2 X dL_owes_4 rfl ?_
  refine v_callV (As := [.int a0, .int a1]) X wm_L_50 wi_X4_owes ws_X4_owes wz_X4 wc_X4_owes ⟨rfl, by decide, by decide, (show (parseMethodDescriptor yX4_owes.desc).map (fun d => d.parameters.length) = some 2 from by decide +kernel)⟩ rfl dL_owes_5 hM (he ▸ h0) rfl (Nat.le_of_ble_eq_true rfl) ⟨rfl, rfl, (Nat.le_of_ble_eq_true rfl), (Nat.le_of_ble_eq_true rfl), (Nat.le_of_ble_eq_true rfl), (Nat.le_of_ble_eq_true rfl)⟩ ?_
  rintro r1 n1 ad1 g1 ⟨rfl, rfl, rfl, hg⟩
  obtain ⟨f, hf⟩ := hG g1 hg
  refine v_i2l X dL_owes_8 ?_
  refine v_last (j := 0) X dL_owes_9 hf rfl (by decide) (by decide) ?_
  refine v_goto (tgt := 17) X dL_owes_10 (by decide) ?_
  refine v_ico (v := 0) X dL_owes_17 (by decide) ?_
  refine vV.wd (k := 1) (n' := 6) (by decide) (by decide) ?_
  exact v_iret X hr hlk dL_owes_18 ⟨rfl, rfl, rfl, g1, vp_updL f 0 v.toInt64, hg, by simp [vp_updL], rfl⟩
set_option maxRecDepth 100000 in
set_option maxHeartbeats 4000000 in
theorem w1_owes (l : Launch) {z0 n : Nat} {D : va_G} {cy : Nat → ClassId} {ad : Nat → Nat} {g : Nat → va_E} {a0 a1 : Int32} {e0 : va_E} (h0 : vAt n g 0 e0) {fs : List Value} (he : e0 = .inr (4, fs)) (hM : CtX l yX4_owes cX4_owes 3 (some FieldType.int) 7 121 z0 D cy n ad g [.ref (ad 0), .int a0, .int a1] eI) : CtW l yL_owes cL_owes 5 (some FieldType.int) [(0, 10, 13, 13)] 8 143 z0 D cy n ad g [.ref (ad 0), .int a0, .int a1, .ref (ad 61)] (isR (some (.int 1)) n ad g) := by
  refine ctw_of (by decide +kernel) 1 [some (.ref (ad 0)), some (.int a0), some (.int a1), some (.ref (ad 61)), none] (Nat.le_of_ble_eq_true rfl) rfl ?_
  intro p e s m below meth c X ht hr hlk
  refine v_aload3 X dL_owes_0 rfl ?_
  refine v_ico (v := 0) X dL_owes_1 (by decide) ?_
  refine v_aload0 X dL_owes_2 rfl ?_
  refine v_iload1 X dL_owes_3 rfl ?_
  refine v_iload2 X dL_owes_4 rfl ?_
  refine v_callVX (As := [.int a0, .int a1]) X wm_L_50 wi_X4_owes ws_X4_owes wz_X4 wc_X4_owes ⟨rfl, by decide, by decide, (show (parseMethodDescriptor yX4_owes.desc).map (fun d => d.parameters.length) = some 2 from by decide +kernel)⟩ rfl dL_owes_5 hM (he ▸ h0) rfl (Nat.le_of_ble_eq_true rfl) ⟨(Nat.le_of_ble_eq_true rfl), (Nat.le_of_ble_eq_true rfl), (Nat.le_of_ble_eq_true rfl), (Nat.le_of_ble_eq_true rfl)⟩ ?_
  refine v_catch (pre := []) (x := ⟨0, 10, 13, 13⟩) (suf := []) X (by rw [ht]; rfl) (fun z hz => ?_) (by decide) (by decide) wk_L_13 (by decide) (fun q => ?_)
  · cases hz
  refine v_astore4 X rfl (Nat.le_of_ble_eq_true rfl) dL_owes_13 ?_
  refine v_ico (v := 1) X dL_owes_15 (by decide) ?_
  exact v_iret X hr hlk dL_owes_16 ⟨rfl, rfl, rfl, rfl⟩
set_option maxRecDepth 100000 in
set_option maxHeartbeats 4000000 in
theorem w_pass (l : Launch) {z0 n : Nat} {D : va_G} {cy : Nat → ClassId} {ad : Nat → Nat} {g : Nat → va_E} {a0 : Int32} {v : Int32} {G : (Nat → va_E) → Prop} {e0 : va_E} (h0 : vAt n g 0 e0) {fs : List Value} (he : e0 = .inr (4, fs)) (hM : CtG l yX4_pass cX4_pass 2 (some FieldType.int) (rmv 7 155) z0 D cy n ad g [.ref (ad 0), .int a0] (gP v n ad G) 0 0) (hG : ∀ g1, G g1 → ∃ f, vAt n g1 61 (oA cy f)) : CtW l yL_pass cL_pass 4 (some FieldType.int) [(0, 9, 12, 15)] 8 176 z0 D cy n ad g [.ref (ad 0), .int a0, .ref (ad 61)] (wP v.toInt64 cy n ad G) := by
  refine ctw_of (by decide +kernel) 1 [some (.ref (ad 0)), some (.int a0), some (.ref (ad 61)), none] (Nat.le_of_ble_eq_true rfl) rfl ?_
  intro p e s m below meth c X ht hr hlk
  refine v_aload2 X dL_pass_0 rfl ?_
  refine v_ico (v := 0) X dL_pass_1 (by decide) ?_
  refine v_aload0 X dL_pass_2 rfl ?_
  refine v_iload1 X dL_pass_3 rfl ?_
  refine v_callV (As := [.int a0]) X wm_L_53 wi_X4_pass ws_X4_pass wz_X4 wc_X4_pass ⟨rfl, by decide, by decide, (show (parseMethodDescriptor yX4_pass.desc).map (fun d => d.parameters.length) = some 1 from by decide +kernel)⟩ rfl dL_pass_4 hM (he ▸ h0) rfl (Nat.le_of_ble_eq_true rfl) ⟨rfl, rfl, (Nat.le_of_ble_eq_true rfl), (Nat.le_of_ble_eq_true rfl), (Nat.le_of_ble_eq_true rfl), (Nat.le_of_ble_eq_true rfl)⟩ ?_
  rintro r1 n1 ad1 g1 ⟨rfl, rfl, rfl, hg⟩
  obtain ⟨f, hf⟩ := hG g1 hg
  refine v_i2l X dL_pass_7 ?_
  refine v_last (j := 0) X dL_pass_8 hf rfl (by decide) (by decide) ?_
  refine v_goto (tgt := 15) X dL_pass_9 (by decide) ?_
  refine v_ico (v := 0) X dL_pass_15 (by decide) ?_
  refine vV.wd (k := 1) (n' := 6) (by decide) (by decide) ?_
  exact v_iret X hr hlk dL_pass_16 ⟨rfl, rfl, rfl, g1, vp_updL f 0 v.toInt64, hg, by simp [vp_updL], rfl⟩
set_option maxRecDepth 100000 in
set_option maxHeartbeats 4000000 in
theorem w1_pass (l : Launch) {z0 n : Nat} {D : va_G} {cy : Nat → ClassId} {ad : Nat → Nat} {g : Nat → va_E} {a0 : Int32} {e0 : va_E} (h0 : vAt n g 0 e0) {fs : List Value} (he : e0 = .inr (4, fs)) (hM : CtX l yX4_pass cX4_pass 2 (some FieldType.int) 7 155 z0 D cy n ad g [.ref (ad 0), .int a0] eA) : CtW l yL_pass cL_pass 4 (some FieldType.int) [(0, 9, 12, 15)] 8 176 z0 D cy n ad g [.ref (ad 0), .int a0, .ref (ad 61)] (isR (some (.int 1)) n ad g) := by
  refine ctw_of (by decide +kernel) 1 [some (.ref (ad 0)), some (.int a0), some (.ref (ad 61)), none] (Nat.le_of_ble_eq_true rfl) rfl ?_
  intro p e s m below meth c X ht hr hlk
  refine v_aload2 X dL_pass_0 rfl ?_
  refine v_ico (v := 0) X dL_pass_1 (by decide) ?_
  refine v_aload0 X dL_pass_2 rfl ?_
  refine v_iload1 X dL_pass_3 rfl ?_
  refine v_callVX (As := [.int a0]) X wm_L_53 wi_X4_pass ws_X4_pass wz_X4 wc_X4_pass ⟨rfl, by decide, by decide, (show (parseMethodDescriptor yX4_pass.desc).map (fun d => d.parameters.length) = some 1 from by decide +kernel)⟩ rfl dL_pass_4 hM (he ▸ h0) rfl (Nat.le_of_ble_eq_true rfl) ⟨(Nat.le_of_ble_eq_true rfl), (Nat.le_of_ble_eq_true rfl), (Nat.le_of_ble_eq_true rfl), (Nat.le_of_ble_eq_true rfl)⟩ ?_
  refine v_catch (pre := []) (x := ⟨0, 9, 12, 15⟩) (suf := []) X (by rw [ht]; rfl) (fun z hz => ?_) (by decide) (by decide) wk_L_15 (by decide) (fun q => ?_)
  · cases hz
  refine v_astore3 X rfl (Nat.le_of_ble_eq_true rfl) dL_pass_12 ?_
  refine v_ico (v := 1) X dL_pass_13 (by decide) ?_
  exact v_iret X hr hlk dL_pass_14 ⟨rfl, rfl, rfl, rfl⟩
set_option maxRecDepth 100000 in
set_option maxHeartbeats 4000000 in
theorem w_count (l : Launch) {z0 n : Nat} {D : va_G} {cy : Nat → ClassId} {ad : Nat → Nat} {g : Nat → va_E} {a0 : Int32} {v : Int32} {G : (Nat → va_E) → Prop} {e0 : va_E} (h0 : vAt n g 0 e0) {fs : List Value} (he : e0 = .inr (4, fs)) (hM : CtG l yX4_count cX4_count 2 (some FieldType.int) (rmv 7 120) z0 D cy n ad g [.ref (ad 0), .int a0] (gP v n ad G) 0 0) (hG : ∀ g1, G g1 → ∃ f, vAt n g1 61 (oA cy f)) : CtW l yL_count cL_count 4 (some FieldType.int) [(0, 9, 12, 13)] 8 141 z0 D cy n ad g [.ref (ad 0), .int a0, .ref (ad 61)] (wP v.toInt64 cy n ad G) := by
  refine ctw_of (by decide +kernel) 1 [some (.ref (ad 0)), some (.int a0), some (.ref (ad 61)), none] (Nat.le_of_ble_eq_true rfl) rfl ?_
  intro p e s m below meth c X ht hr hlk
  refine v_aload2 X dL_count_0 rfl ?_
  refine v_ico (v := 0) X dL_count_1 (by decide) ?_
  refine v_aload0 X dL_count_2 rfl ?_
  refine v_iload1 X dL_count_3 rfl ?_
  refine v_callV (As := [.int a0]) X wm_L_56 wi_X4_count ws_X4_count wz_X4 wc_X4_count ⟨rfl, by decide, by decide, (show (parseMethodDescriptor yX4_count.desc).map (fun d => d.parameters.length) = some 1 from by decide +kernel)⟩ rfl dL_count_4 hM (he ▸ h0) rfl (Nat.le_of_ble_eq_true rfl) ⟨rfl, rfl, (Nat.le_of_ble_eq_true rfl), (Nat.le_of_ble_eq_true rfl), (Nat.le_of_ble_eq_true rfl), (Nat.le_of_ble_eq_true rfl)⟩ ?_
  rintro r1 n1 ad1 g1 ⟨rfl, rfl, rfl, hg⟩
  obtain ⟨f, hf⟩ := hG g1 hg
  refine v_i2l X dL_count_7 ?_
  refine v_last (j := 0) X dL_count_8 hf rfl (by decide) (by decide) ?_
  refine v_goto (tgt := 15) X dL_count_9 (by decide) ?_
  refine v_ico (v := 0) X dL_count_15 (by decide) ?_
  refine vV.wd (k := 1) (n' := 6) (by decide) (by decide) ?_
  exact v_iret X hr hlk dL_count_16 ⟨rfl, rfl, rfl, g1, vp_updL f 0 v.toInt64, hg, by simp [vp_updL], rfl⟩
set_option maxRecDepth 100000 in
set_option maxHeartbeats 4000000 in
theorem w1_count (l : Launch) {z0 n : Nat} {D : va_G} {cy : Nat → ClassId} {ad : Nat → Nat} {g : Nat → va_E} {a0 : Int32} {e0 : va_E} (h0 : vAt n g 0 e0) {fs : List Value} (he : e0 = .inr (4, fs)) (hM : CtX l yX4_count cX4_count 2 (some FieldType.int) 7 120 z0 D cy n ad g [.ref (ad 0), .int a0] eI) : CtW l yL_count cL_count 4 (some FieldType.int) [(0, 9, 12, 13)] 8 141 z0 D cy n ad g [.ref (ad 0), .int a0, .ref (ad 61)] (isR (some (.int 1)) n ad g) := by
  refine ctw_of (by decide +kernel) 1 [some (.ref (ad 0)), some (.int a0), some (.ref (ad 61)), none] (Nat.le_of_ble_eq_true rfl) rfl ?_
  intro p e s m below meth c X ht hr hlk
  refine v_aload2 X dL_count_0 rfl ?_
  refine v_ico (v := 0) X dL_count_1 (by decide) ?_
  refine v_aload0 X dL_count_2 rfl ?_
  refine v_iload1 X dL_count_3 rfl ?_
  refine v_callVX (As := [.int a0]) X wm_L_56 wi_X4_count ws_X4_count wz_X4 wc_X4_count ⟨rfl, by decide, by decide, (show (parseMethodDescriptor yX4_count.desc).map (fun d => d.parameters.length) = some 1 from by decide +kernel)⟩ rfl dL_count_4 hM (he ▸ h0) rfl (Nat.le_of_ble_eq_true rfl) ⟨(Nat.le_of_ble_eq_true rfl), (Nat.le_of_ble_eq_true rfl), (Nat.le_of_ble_eq_true rfl), (Nat.le_of_ble_eq_true rfl)⟩ ?_
  refine v_catch (pre := []) (x := ⟨0, 9, 12, 13⟩) (suf := []) X (by rw [ht]; rfl) (fun z hz => ?_) (by decide) (by decide) wk_L_13 (by decide) (fun q => ?_)
  · cases hz
  refine v_astore3 X rfl (Nat.le_of_ble_eq_true rfl) dL_count_12 ?_
  refine v_ico (v := 1) X dL_count_13 (by decide) ?_
  exact v_iret X hr hlk dL_count_14 ⟨rfl, rfl, rfl, rfl⟩
set_option maxRecDepth 100000 in
set_option maxHeartbeats 4000000 in
theorem w_foresee (l : Launch) {z0 n : Nat} {D : va_G} {cy : Nat → ClassId} {ad : Nat → Nat} {g : Nat → va_E} {a0 a1 : Int32} {v : Int32} {G : (Nat → va_E) → Prop} {e0 : va_E} (h0 : vAt n g 0 e0) {fs : List Value} (he : e0 = .inr (4, fs)) (hM : CtG l yX4_foresee cX4_foresee 4 (some FieldType.int) (rmv 7 155) z0 D cy n ad g [.ref (ad 0), .int a0, .int a1] (gP v n ad G) 0 0) (hG : ∀ g1, G g1 → ∃ f, vAt n g1 61 (oA cy f)) : CtW l yL_foresee cL_foresee 5 (some FieldType.int) [(0, 10, 13, 15), (0, 10, 17, 13)] 8 178 z0 D cy n ad g [.ref (ad 0), .int a0, .int a1, .ref (ad 61)] (wP v.toInt64 cy n ad G) := by
  refine ctw_of (by decide +kernel) 1 [some (.ref (ad 0)), some (.int a0), some (.int a1), some (.ref (ad 61)), none] (Nat.le_of_ble_eq_true rfl) rfl ?_
  intro p e s m below meth c X ht hr hlk
  refine v_aload3 X dL_foresee_0 rfl ?_
  refine v_ico (v := 0) X dL_foresee_1 (by decide) ?_
  refine v_aload0 X dL_foresee_2 rfl ?_
  refine v_iload1 X dL_foresee_3 rfl ?_
  refine v_iload2 X dL_foresee_4 rfl ?_
  refine v_callV (As := [.int a0, .int a1]) X wm_L_59 wi_X4_foresee ws_X4_foresee wz_X4 wc_X4_foresee ⟨rfl, by decide, by decide, (show (parseMethodDescriptor yX4_foresee.desc).map (fun d => d.parameters.length) = some 2 from by decide +kernel)⟩ rfl dL_foresee_5 hM (he ▸ h0) rfl (Nat.le_of_ble_eq_true rfl) ⟨rfl, rfl, (Nat.le_of_ble_eq_true rfl), (Nat.le_of_ble_eq_true rfl), (Nat.le_of_ble_eq_true rfl), (Nat.le_of_ble_eq_true rfl)⟩ ?_
  rintro r1 n1 ad1 g1 ⟨rfl, rfl, rfl, hg⟩
  obtain ⟨f, hf⟩ := hG g1 hg
  refine v_i2l X dL_foresee_8 ?_
  refine v_last (j := 0) X dL_foresee_9 hf rfl (by decide) (by decide) ?_
  refine v_goto (tgt := 21) X dL_foresee_10 (by decide) ?_
  refine v_ico (v := 0) X dL_foresee_21 (by decide) ?_
  refine vV.wd (k := 1) (n' := 6) (by decide) (by decide) ?_
  exact v_iret X hr hlk dL_foresee_22 ⟨rfl, rfl, rfl, g1, vp_updL f 0 v.toInt64, hg, by simp [vp_updL], rfl⟩
set_option maxRecDepth 100000 in
set_option maxHeartbeats 4000000 in
theorem w1_foresee (l : Launch) {z0 n : Nat} {D : va_G} {cy : Nat → ClassId} {ad : Nat → Nat} {g : Nat → va_E} {a0 a1 : Int32} {e0 : va_E} (h0 : vAt n g 0 e0) {fs : List Value} (he : e0 = .inr (4, fs)) (hM : CtX l yX4_foresee cX4_foresee 4 (some FieldType.int) 7 155 z0 D cy n ad g [.ref (ad 0), .int a0, .int a1] eA) : CtW l yL_foresee cL_foresee 5 (some FieldType.int) [(0, 10, 13, 15), (0, 10, 17, 13)] 8 178 z0 D cy n ad g [.ref (ad 0), .int a0, .int a1, .ref (ad 61)] (isR (some (.int 1)) n ad g) := by
  refine ctw_of (by decide +kernel) 1 [some (.ref (ad 0)), some (.int a0), some (.int a1), some (.ref (ad 61)), none] (Nat.le_of_ble_eq_true rfl) rfl ?_
  intro p e s m below meth c X ht hr hlk
  refine v_aload3 X dL_foresee_0 rfl ?_
  refine v_ico (v := 0) X dL_foresee_1 (by decide) ?_
  refine v_aload0 X dL_foresee_2 rfl ?_
  refine v_iload1 X dL_foresee_3 rfl ?_
  refine v_iload2 X dL_foresee_4 rfl ?_
  refine v_callVX (As := [.int a0, .int a1]) X wm_L_59 wi_X4_foresee ws_X4_foresee wz_X4 wc_X4_foresee ⟨rfl, by decide, by decide, (show (parseMethodDescriptor yX4_foresee.desc).map (fun d => d.parameters.length) = some 2 from by decide +kernel)⟩ rfl dL_foresee_5 hM (he ▸ h0) rfl (Nat.le_of_ble_eq_true rfl) ⟨(Nat.le_of_ble_eq_true rfl), (Nat.le_of_ble_eq_true rfl), (Nat.le_of_ble_eq_true rfl), (Nat.le_of_ble_eq_true rfl)⟩ ?_
  refine v_catch (pre := []) (x := ⟨0, 10, 13, 15⟩) (suf := [⟨0, 10, 17, 13⟩]) X (by rw [ht]; rfl) (fun z hz => ?_) (by decide) (by decide) wk_L_15 (by decide) (fun q => ?_)
  · cases hz
  refine v_astore4 X rfl (Nat.le_of_ble_eq_true rfl) dL_foresee_13 ?_
  refine v_ico (v := 1) X dL_foresee_15 (by decide) ?_
  exact v_iret X hr hlk dL_foresee_16 ⟨rfl, rfl, rfl, rfl⟩
set_option maxRecDepth 100000 in
set_option maxHeartbeats 4000000 in
theorem w2_foresee (l : Launch) {z0 n : Nat} {D : va_G} {cy : Nat → ClassId} {ad : Nat → Nat} {g : Nat → va_E} {a0 a1 : Int32} {e0 : va_E} (h0 : vAt n g 0 e0) {fs : List Value} (he : e0 = .inr (4, fs)) (hM : CtX l yX4_foresee cX4_foresee 4 (some FieldType.int) 7 155 z0 D cy n ad g [.ref (ad 0), .int a0, .int a1] eI) : CtW l yL_foresee cL_foresee 5 (some FieldType.int) [(0, 10, 13, 15), (0, 10, 17, 13)] 8 178 z0 D cy n ad g [.ref (ad 0), .int a0, .int a1, .ref (ad 61)] (isR (some (.int 2)) n ad g) := by
  refine ctw_of (by decide +kernel) 1 [some (.ref (ad 0)), some (.int a0), some (.int a1), some (.ref (ad 61)), none] (Nat.le_of_ble_eq_true rfl) rfl ?_
  intro p e s m below meth c X ht hr hlk
  refine v_aload3 X dL_foresee_0 rfl ?_
  refine v_ico (v := 0) X dL_foresee_1 (by decide) ?_
  refine v_aload0 X dL_foresee_2 rfl ?_
  refine v_iload1 X dL_foresee_3 rfl ?_
  refine v_iload2 X dL_foresee_4 rfl ?_
  refine v_callVX (As := [.int a0, .int a1]) X wm_L_59 wi_X4_foresee ws_X4_foresee wz_X4 wc_X4_foresee ⟨rfl, by decide, by decide, (show (parseMethodDescriptor yX4_foresee.desc).map (fun d => d.parameters.length) = some 2 from by decide +kernel)⟩ rfl dL_foresee_5 hM (he ▸ h0) rfl (Nat.le_of_ble_eq_true rfl) ⟨(Nat.le_of_ble_eq_true rfl), (Nat.le_of_ble_eq_true rfl), (Nat.le_of_ble_eq_true rfl), (Nat.le_of_ble_eq_true rfl)⟩ ?_
  refine v_catch (pre := [⟨0, 10, 13, 15⟩]) (x := ⟨0, 10, 17, 13⟩) (suf := []) X (by rw [ht]; rfl) (fun z hz => ?_) (by decide) (by decide) wk_L_13 (by decide) (fun q => ?_)
  · rcases List.mem_cons.mp hz with rfl | hz
    · exact ⟨by decide, _, wk_L_15, by decide⟩
    cases hz
  refine v_astore4 X rfl (Nat.le_of_ble_eq_true rfl) dL_foresee_17 ?_
  refine v_ico (v := 2) X dL_foresee_19 (by decide) ?_
  exact v_iret X hr hlk dL_foresee_20 ⟨rfl, rfl, rfl, rfl⟩
set_option maxRecDepth 100000 in
set_option maxHeartbeats 4000000 in
theorem w_lasts (l : Launch) {z0 n : Nat} {D : va_G} {cy : Nat → ClassId} {ad : Nat → Nat} {g : Nat → va_E} {a0 : Int32} {v : Int32} {G : (Nat → va_E) → Prop} {e0 : va_E} (h0 : vAt n g 0 e0) {fs : List Value} (he : e0 = .inr (4, fs)) (hM : CtG l yX4_lasts cX4_lasts 2 (some FieldType.int) (rmv 7 157) z0 D cy n ad g [.ref (ad 0), .int a0] (gP v n ad G) 0 0) (hG : ∀ g1, G g1 → ∃ f, vAt n g1 61 (oA cy f)) : CtW l yL_lasts cL_lasts 4 (some FieldType.int) [(0, 9, 12, 13)] 8 178 z0 D cy n ad g [.ref (ad 0), .int a0, .ref (ad 61)] (wP v.toInt64 cy n ad G) := by
  refine ctw_of (by decide +kernel) 1 [some (.ref (ad 0)), some (.int a0), some (.ref (ad 61)), none] (Nat.le_of_ble_eq_true rfl) rfl ?_
  intro p e s m below meth c X ht hr hlk
  refine v_aload2 X dL_lasts_0 rfl ?_
  refine v_ico (v := 0) X dL_lasts_1 (by decide) ?_
  refine v_aload0 X dL_lasts_2 rfl ?_
  refine v_iload1 X dL_lasts_3 rfl ?_
  refine v_callV (As := [.int a0]) X wm_L_62 wi_X4_lasts ws_X4_lasts wz_X4 wc_X4_lasts ⟨rfl, by decide, by decide, (show (parseMethodDescriptor yX4_lasts.desc).map (fun d => d.parameters.length) = some 1 from by decide +kernel)⟩ rfl dL_lasts_4 hM (he ▸ h0) rfl (Nat.le_of_ble_eq_true rfl) ⟨rfl, rfl, (Nat.le_of_ble_eq_true rfl), (Nat.le_of_ble_eq_true rfl), (Nat.le_of_ble_eq_true rfl), (Nat.le_of_ble_eq_true rfl)⟩ ?_
  rintro r1 n1 ad1 g1 ⟨rfl, rfl, rfl, hg⟩
  obtain ⟨f, hf⟩ := hG g1 hg
  refine v_i2l X dL_lasts_7 ?_
  refine v_last (j := 0) X dL_lasts_8 hf rfl (by decide) (by decide) ?_
  refine v_goto (tgt := 15) X dL_lasts_9 (by decide) ?_
  refine v_ico (v := 0) X dL_lasts_15 (by decide) ?_
  refine vV.wd (k := 1) (n' := 6) (by decide) (by decide) ?_
  exact v_iret X hr hlk dL_lasts_16 ⟨rfl, rfl, rfl, g1, vp_updL f 0 v.toInt64, hg, by simp [vp_updL], rfl⟩
set_option maxRecDepth 100000 in
set_option maxHeartbeats 4000000 in
theorem w1_lasts (l : Launch) {z0 n : Nat} {D : va_G} {cy : Nat → ClassId} {ad : Nat → Nat} {g : Nat → va_E} {a0 : Int32} {e0 : va_E} (h0 : vAt n g 0 e0) {fs : List Value} (he : e0 = .inr (4, fs)) (hM : CtX l yX4_lasts cX4_lasts 2 (some FieldType.int) 7 157 z0 D cy n ad g [.ref (ad 0), .int a0] eI) : CtW l yL_lasts cL_lasts 4 (some FieldType.int) [(0, 9, 12, 13)] 8 178 z0 D cy n ad g [.ref (ad 0), .int a0, .ref (ad 61)] (isR (some (.int 1)) n ad g) := by
  refine ctw_of (by decide +kernel) 1 [some (.ref (ad 0)), some (.int a0), some (.ref (ad 61)), none] (Nat.le_of_ble_eq_true rfl) rfl ?_
  intro p e s m below meth c X ht hr hlk
  refine v_aload2 X dL_lasts_0 rfl ?_
  refine v_ico (v := 0) X dL_lasts_1 (by decide) ?_
  refine v_aload0 X dL_lasts_2 rfl ?_
  refine v_iload1 X dL_lasts_3 rfl ?_
  refine v_callVX (As := [.int a0]) X wm_L_62 wi_X4_lasts ws_X4_lasts wz_X4 wc_X4_lasts ⟨rfl, by decide, by decide, (show (parseMethodDescriptor yX4_lasts.desc).map (fun d => d.parameters.length) = some 1 from by decide +kernel)⟩ rfl dL_lasts_4 hM (he ▸ h0) rfl (Nat.le_of_ble_eq_true rfl) ⟨(Nat.le_of_ble_eq_true rfl), (Nat.le_of_ble_eq_true rfl), (Nat.le_of_ble_eq_true rfl), (Nat.le_of_ble_eq_true rfl)⟩ ?_
  refine v_catch (pre := []) (x := ⟨0, 9, 12, 13⟩) (suf := []) X (by rw [ht]; rfl) (fun z hz => ?_) (by decide) (by decide) wk_L_13 (by decide) (fun q => ?_)
  · cases hz
  refine v_astore3 X rfl (Nat.le_of_ble_eq_true rfl) dL_lasts_12 ?_
  refine v_ico (v := 1) X dL_lasts_13 (by decide) ?_
  exact v_iret X hr hlk dL_lasts_14 ⟨rfl, rfl, rfl, rfl⟩
set_option maxRecDepth 100000 in
set_option maxHeartbeats 4000000 in
theorem w_needs (l : Launch) {z0 n : Nat} {D : va_G} {cy : Nat → ClassId} {ad : Nat → Nat} {g : Nat → va_E} {a0 a1 : Int32} {v : Int32} {G : (Nat → va_E) → Prop} {e0 : va_E} (h0 : vAt n g 0 e0) {fs : List Value} (he : e0 = .inr (4, fs)) (hM : CtG l yX4_needs cX4_needs 4 (some FieldType.int) (rmv 7 157) z0 D cy n ad g [.ref (ad 0), .int a0, .int a1] (gP v n ad G) 0 0) (hG : ∀ g1, G g1 → ∃ f, vAt n g1 61 (oA cy f)) : CtW l yL_needs cL_needs 5 (some FieldType.int) [(0, 10, 13, 13), (0, 10, 17, 15)] 8 180 z0 D cy n ad g [.ref (ad 0), .int a0, .int a1, .ref (ad 61)] (wP v.toInt64 cy n ad G) := by
  refine ctw_of (by decide +kernel) 1 [some (.ref (ad 0)), some (.int a0), some (.int a1), some (.ref (ad 61)), none] (Nat.le_of_ble_eq_true rfl) rfl ?_
  intro p e s m below meth c X ht hr hlk
  refine v_aload3 X dL_needs_0 rfl ?_
  refine v_ico (v := 0) X dL_needs_1 (by decide) ?_
  refine v_aload0 X dL_needs_2 rfl ?_
  refine v_iload1 X dL_needs_3 rfl ?_
  refine v_iload2 X dL_needs_4 rfl ?_
  refine v_callV (As := [.int a0, .int a1]) X wm_L_65 wi_X4_needs ws_X4_needs wz_X4 wc_X4_needs ⟨rfl, by decide, by decide, (show (parseMethodDescriptor yX4_needs.desc).map (fun d => d.parameters.length) = some 2 from by decide +kernel)⟩ rfl dL_needs_5 hM (he ▸ h0) rfl (Nat.le_of_ble_eq_true rfl) ⟨rfl, rfl, (Nat.le_of_ble_eq_true rfl), (Nat.le_of_ble_eq_true rfl), (Nat.le_of_ble_eq_true rfl), (Nat.le_of_ble_eq_true rfl)⟩ ?_
  rintro r1 n1 ad1 g1 ⟨rfl, rfl, rfl, hg⟩
  obtain ⟨f, hf⟩ := hG g1 hg
  refine v_i2l X dL_needs_8 ?_
  refine v_last (j := 0) X dL_needs_9 hf rfl (by decide) (by decide) ?_
  refine v_goto (tgt := 21) X dL_needs_10 (by decide) ?_
  refine v_ico (v := 0) X dL_needs_21 (by decide) ?_
  refine vV.wd (k := 1) (n' := 6) (by decide) (by decide) ?_
  exact v_iret X hr hlk dL_needs_22 ⟨rfl, rfl, rfl, g1, vp_updL f 0 v.toInt64, hg, by simp [vp_updL], rfl⟩
set_option maxRecDepth 100000 in
set_option maxHeartbeats 4000000 in
theorem w1_needs (l : Launch) {z0 n : Nat} {D : va_G} {cy : Nat → ClassId} {ad : Nat → Nat} {g : Nat → va_E} {a0 a1 : Int32} {e0 : va_E} (h0 : vAt n g 0 e0) {fs : List Value} (he : e0 = .inr (4, fs)) (hM : CtX l yX4_needs cX4_needs 4 (some FieldType.int) 7 157 z0 D cy n ad g [.ref (ad 0), .int a0, .int a1] eI) : CtW l yL_needs cL_needs 5 (some FieldType.int) [(0, 10, 13, 13), (0, 10, 17, 15)] 8 180 z0 D cy n ad g [.ref (ad 0), .int a0, .int a1, .ref (ad 61)] (isR (some (.int 1)) n ad g) := by
  refine ctw_of (by decide +kernel) 1 [some (.ref (ad 0)), some (.int a0), some (.int a1), some (.ref (ad 61)), none] (Nat.le_of_ble_eq_true rfl) rfl ?_
  intro p e s m below meth c X ht hr hlk
  refine v_aload3 X dL_needs_0 rfl ?_
  refine v_ico (v := 0) X dL_needs_1 (by decide) ?_
  refine v_aload0 X dL_needs_2 rfl ?_
  refine v_iload1 X dL_needs_3 rfl ?_
  refine v_iload2 X dL_needs_4 rfl ?_
  refine v_callVX (As := [.int a0, .int a1]) X wm_L_65 wi_X4_needs ws_X4_needs wz_X4 wc_X4_needs ⟨rfl, by decide, by decide, (show (parseMethodDescriptor yX4_needs.desc).map (fun d => d.parameters.length) = some 2 from by decide +kernel)⟩ rfl dL_needs_5 hM (he ▸ h0) rfl (Nat.le_of_ble_eq_true rfl) ⟨(Nat.le_of_ble_eq_true rfl), (Nat.le_of_ble_eq_true rfl), (Nat.le_of_ble_eq_true rfl), (Nat.le_of_ble_eq_true rfl)⟩ ?_
  refine v_catch (pre := []) (x := ⟨0, 10, 13, 13⟩) (suf := [⟨0, 10, 17, 15⟩]) X (by rw [ht]; rfl) (fun z hz => ?_) (by decide) (by decide) wk_L_13 (by decide) (fun q => ?_)
  · cases hz
  refine v_astore4 X rfl (Nat.le_of_ble_eq_true rfl) dL_needs_13 ?_
  refine v_ico (v := 1) X dL_needs_15 (by decide) ?_
  exact v_iret X hr hlk dL_needs_16 ⟨rfl, rfl, rfl, rfl⟩
set_option maxRecDepth 100000 in
set_option maxHeartbeats 4000000 in
theorem w2_needs (l : Launch) {z0 n : Nat} {D : va_G} {cy : Nat → ClassId} {ad : Nat → Nat} {g : Nat → va_E} {a0 a1 : Int32} {e0 : va_E} (h0 : vAt n g 0 e0) {fs : List Value} (he : e0 = .inr (4, fs)) (hM : CtX l yX4_needs cX4_needs 4 (some FieldType.int) 7 157 z0 D cy n ad g [.ref (ad 0), .int a0, .int a1] eA) : CtW l yL_needs cL_needs 5 (some FieldType.int) [(0, 10, 13, 13), (0, 10, 17, 15)] 8 180 z0 D cy n ad g [.ref (ad 0), .int a0, .int a1, .ref (ad 61)] (isR (some (.int 2)) n ad g) := by
  refine ctw_of (by decide +kernel) 1 [some (.ref (ad 0)), some (.int a0), some (.int a1), some (.ref (ad 61)), none] (Nat.le_of_ble_eq_true rfl) rfl ?_
  intro p e s m below meth c X ht hr hlk
  refine v_aload3 X dL_needs_0 rfl ?_
  refine v_ico (v := 0) X dL_needs_1 (by decide) ?_
  refine v_aload0 X dL_needs_2 rfl ?_
  refine v_iload1 X dL_needs_3 rfl ?_
  refine v_iload2 X dL_needs_4 rfl ?_
  refine v_callVX (As := [.int a0, .int a1]) X wm_L_65 wi_X4_needs ws_X4_needs wz_X4 wc_X4_needs ⟨rfl, by decide, by decide, (show (parseMethodDescriptor yX4_needs.desc).map (fun d => d.parameters.length) = some 2 from by decide +kernel)⟩ rfl dL_needs_5 hM (he ▸ h0) rfl (Nat.le_of_ble_eq_true rfl) ⟨(Nat.le_of_ble_eq_true rfl), (Nat.le_of_ble_eq_true rfl), (Nat.le_of_ble_eq_true rfl), (Nat.le_of_ble_eq_true rfl)⟩ ?_
  refine v_catch (pre := [⟨0, 10, 13, 13⟩]) (x := ⟨0, 10, 17, 15⟩) (suf := []) X (by rw [ht]; rfl) (fun z hz => ?_) (by decide) (by decide) wk_L_15 (by decide) (fun q => ?_)
  · rcases List.mem_cons.mp hz with rfl | hz
    · exact ⟨by decide, _, wk_L_13, by decide⟩
    cases hz
  refine v_astore4 X rfl (Nat.le_of_ble_eq_true rfl) dL_needs_17 ?_
  refine v_ico (v := 2) X dL_needs_19 (by decide) ?_
  exact v_iret X hr hlk dL_needs_20 ⟨rfl, rfl, rfl, rfl⟩
set_option maxRecDepth 100000 in
set_option maxHeartbeats 4000000 in
theorem w_dirty (l : Launch) {z0 n : Nat} {D : va_G} {cy : Nat → ClassId} {ad : Nat → Nat} {g : Nat → va_E} {a0 : Int32} {v : Int32} {G : (Nat → va_E) → Prop} {e0 : va_E} (h0 : vAt n g 0 e0) {fs : List Value} (he : e0 = .inr (4, fs)) (hM : CtG l yX4_dirty cX4_dirty 6 (some FieldType.int) (rmv 7 155) z0 D cy n ad g [.ref (ad 0), .int a0] (gP v n ad G) 0 0) (hG : ∀ g1, G g1 → ∃ f, vAt n g1 61 (oA cy f)) : CtW l yL_dirty cL_dirty 4 (some FieldType.int) [(0, 9, 12, 15)] 8 180 z0 D cy n ad g [.ref (ad 0), .int a0, .ref (ad 61)] (wP v.toInt64 cy n ad G) := by
  refine ctw_of (by decide +kernel) 1 [some (.ref (ad 0)), some (.int a0), some (.ref (ad 61)), none] (Nat.le_of_ble_eq_true rfl) rfl ?_
  intro p e s m below meth c X ht hr hlk
  refine v_aload2 X dL_dirty_0 rfl ?_
  refine v_ico (v := 0) X dL_dirty_1 (by decide) ?_
  refine v_aload0 X dL_dirty_2 rfl ?_
  refine v_iload1 X dL_dirty_3 rfl ?_
  refine v_callV (As := [.int a0]) X wm_L_68 wi_X4_dirty ws_X4_dirty wz_X4 wc_X4_dirty ⟨rfl, by decide, by decide, (show (parseMethodDescriptor yX4_dirty.desc).map (fun d => d.parameters.length) = some 1 from by decide +kernel)⟩ rfl dL_dirty_4 hM (he ▸ h0) rfl (Nat.le_of_ble_eq_true rfl) ⟨rfl, rfl, (Nat.le_of_ble_eq_true rfl), (Nat.le_of_ble_eq_true rfl), (Nat.le_of_ble_eq_true rfl), (Nat.le_of_ble_eq_true rfl)⟩ ?_
  rintro r1 n1 ad1 g1 ⟨rfl, rfl, rfl, hg⟩
  obtain ⟨f, hf⟩ := hG g1 hg
  refine v_i2l X dL_dirty_7 ?_
  refine v_last (j := 0) X dL_dirty_8 hf rfl (by decide) (by decide) ?_
  refine v_goto (tgt := 15) X dL_dirty_9 (by decide) ?_
  refine v_ico (v := 0) X dL_dirty_15 (by decide) ?_
  refine vV.wd (k := 1) (n' := 6) (by decide) (by decide) ?_
  exact v_iret X hr hlk dL_dirty_16 ⟨rfl, rfl, rfl, g1, vp_updL f 0 v.toInt64, hg, by simp [vp_updL], rfl⟩
set_option maxRecDepth 100000 in
set_option maxHeartbeats 4000000 in
theorem w1_dirty (l : Launch) {z0 n : Nat} {D : va_G} {cy : Nat → ClassId} {ad : Nat → Nat} {g : Nat → va_E} {a0 : Int32} {e0 : va_E} (h0 : vAt n g 0 e0) {fs : List Value} (he : e0 = .inr (4, fs)) (hM : CtX l yX4_dirty cX4_dirty 6 (some FieldType.int) 7 155 z0 D cy n ad g [.ref (ad 0), .int a0] eA) : CtW l yL_dirty cL_dirty 4 (some FieldType.int) [(0, 9, 12, 15)] 8 180 z0 D cy n ad g [.ref (ad 0), .int a0, .ref (ad 61)] (isR (some (.int 1)) n ad g) := by
  refine ctw_of (by decide +kernel) 1 [some (.ref (ad 0)), some (.int a0), some (.ref (ad 61)), none] (Nat.le_of_ble_eq_true rfl) rfl ?_
  intro p e s m below meth c X ht hr hlk
  refine v_aload2 X dL_dirty_0 rfl ?_
  refine v_ico (v := 0) X dL_dirty_1 (by decide) ?_
  refine v_aload0 X dL_dirty_2 rfl ?_
  refine v_iload1 X dL_dirty_3 rfl ?_
  refine v_callVX (As := [.int a0]) X wm_L_68 wi_X4_dirty ws_X4_dirty wz_X4 wc_X4_dirty ⟨rfl, by decide, by decide, (show (parseMethodDescriptor yX4_dirty.desc).map (fun d => d.parameters.length) = some 1 from by decide +kernel)⟩ rfl dL_dirty_4 hM (he ▸ h0) rfl (Nat.le_of_ble_eq_true rfl) ⟨(Nat.le_of_ble_eq_true rfl), (Nat.le_of_ble_eq_true rfl), (Nat.le_of_ble_eq_true rfl), (Nat.le_of_ble_eq_true rfl)⟩ ?_
  refine v_catch (pre := []) (x := ⟨0, 9, 12, 15⟩) (suf := []) X (by rw [ht]; rfl) (fun z hz => ?_) (by decide) (by decide) wk_L_15 (by decide) (fun q => ?_)
  · cases hz
  refine v_astore3 X rfl (Nat.le_of_ble_eq_true rfl) dL_dirty_12 ?_
  refine v_ico (v := 1) X dL_dirty_13 (by decide) ?_
  exact v_iret X hr hlk dL_dirty_14 ⟨rfl, rfl, rfl, rfl⟩
set_option maxRecDepth 100000 in
set_option maxHeartbeats 4000000 in
theorem w_advise (l : Launch) {z0 n : Nat} {D : va_G} {cy : Nat → ClassId} {ad : Nat → Nat} {g : Nat → va_E} {a0 : Int32} {v : Int32} {G : (Nat → va_E) → Prop} {e0 : va_E} (h0 : vAt n g 0 e0) {fs : List Value} (he : e0 = .inr (4, fs)) (hM : CtG l yX4_advise cX4_advise 6 (some FieldType.int) (rmv 7 155) z0 D cy n ad g [.ref (ad 0), .int a0] (gP v n ad G) 0 0) (hG : ∀ g1, G g1 → ∃ f, vAt n g1 61 (oA cy f)) : CtW l yL_advise cL_advise 4 (some FieldType.int) [(0, 9, 12, 15)] 8 180 z0 D cy n ad g [.ref (ad 0), .int a0, .ref (ad 61)] (wP v.toInt64 cy n ad G) := by
  refine ctw_of (by decide +kernel) 1 [some (.ref (ad 0)), some (.int a0), some (.ref (ad 61)), none] (Nat.le_of_ble_eq_true rfl) rfl ?_
  intro p e s m below meth c X ht hr hlk
  refine v_aload2 X dL_advise_0 rfl ?_
  refine v_ico (v := 0) X dL_advise_1 (by decide) ?_
  refine v_aload0 X dL_advise_2 rfl ?_
  refine v_iload1 X dL_advise_3 rfl ?_
  refine v_callV (As := [.int a0]) X wm_L_71 wi_X4_advise ws_X4_advise wz_X4 wc_X4_advise ⟨rfl, by decide, by decide, (show (parseMethodDescriptor yX4_advise.desc).map (fun d => d.parameters.length) = some 1 from by decide +kernel)⟩ rfl dL_advise_4 hM (he ▸ h0) rfl (Nat.le_of_ble_eq_true rfl) ⟨rfl, rfl, (Nat.le_of_ble_eq_true rfl), (Nat.le_of_ble_eq_true rfl), (Nat.le_of_ble_eq_true rfl), (Nat.le_of_ble_eq_true rfl)⟩ ?_
  rintro r1 n1 ad1 g1 ⟨rfl, rfl, rfl, hg⟩
  obtain ⟨f, hf⟩ := hG g1 hg
  refine v_i2l X dL_advise_7 ?_
  refine v_last (j := 0) X dL_advise_8 hf rfl (by decide) (by decide) ?_
  refine v_goto (tgt := 15) X dL_advise_9 (by decide) ?_
  refine v_ico (v := 0) X dL_advise_15 (by decide) ?_
  refine vV.wd (k := 1) (n' := 6) (by decide) (by decide) ?_
  exact v_iret X hr hlk dL_advise_16 ⟨rfl, rfl, rfl, g1, vp_updL f 0 v.toInt64, hg, by simp [vp_updL], rfl⟩
set_option maxRecDepth 100000 in
set_option maxHeartbeats 4000000 in
theorem w1_advise (l : Launch) {z0 n : Nat} {D : va_G} {cy : Nat → ClassId} {ad : Nat → Nat} {g : Nat → va_E} {a0 : Int32} {e0 : va_E} (h0 : vAt n g 0 e0) {fs : List Value} (he : e0 = .inr (4, fs)) (hM : CtX l yX4_advise cX4_advise 6 (some FieldType.int) 7 155 z0 D cy n ad g [.ref (ad 0), .int a0] eA) : CtW l yL_advise cL_advise 4 (some FieldType.int) [(0, 9, 12, 15)] 8 180 z0 D cy n ad g [.ref (ad 0), .int a0, .ref (ad 61)] (isR (some (.int 1)) n ad g) := by
  refine ctw_of (by decide +kernel) 1 [some (.ref (ad 0)), some (.int a0), some (.ref (ad 61)), none] (Nat.le_of_ble_eq_true rfl) rfl ?_
  intro p e s m below meth c X ht hr hlk
  refine v_aload2 X dL_advise_0 rfl ?_
  refine v_ico (v := 0) X dL_advise_1 (by decide) ?_
  refine v_aload0 X dL_advise_2 rfl ?_
  refine v_iload1 X dL_advise_3 rfl ?_
  refine v_callVX (As := [.int a0]) X wm_L_71 wi_X4_advise ws_X4_advise wz_X4 wc_X4_advise ⟨rfl, by decide, by decide, (show (parseMethodDescriptor yX4_advise.desc).map (fun d => d.parameters.length) = some 1 from by decide +kernel)⟩ rfl dL_advise_4 hM (he ▸ h0) rfl (Nat.le_of_ble_eq_true rfl) ⟨(Nat.le_of_ble_eq_true rfl), (Nat.le_of_ble_eq_true rfl), (Nat.le_of_ble_eq_true rfl), (Nat.le_of_ble_eq_true rfl)⟩ ?_
  refine v_catch (pre := []) (x := ⟨0, 9, 12, 15⟩) (suf := []) X (by rw [ht]; rfl) (fun z hz => ?_) (by decide) (by decide) wk_L_15 (by decide) (fun q => ?_)
  · cases hz
  refine v_astore3 X rfl (Nat.le_of_ble_eq_true rfl) dL_advise_12 ?_
  refine v_ico (v := 1) X dL_advise_13 (by decide) ?_
  exact v_iret X hr hlk dL_advise_14 ⟨rfl, rfl, rfl, rfl⟩
