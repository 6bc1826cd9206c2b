/-! the law's rows -/
section LW
variable {p : Program} {l : Launch} {e : Env} {R : Room} {s : State} {m : MethodId} {args : Array Value} {below : List Frame} {meth : Method} {c : Code} {cells slots : Nat} {Q : State → Prop}
variable {cc : ByteArray} {own : String} {nL z0 n pc : Nat} {D : va_G} {cy : Nat → ClassId} {ad : Nat → Nat} {g : Nat → va_E} {L : List (Option Value)} {st : List Value}
theorem v_sld (X : vCx p s m args c cc own nL z0 D cy) {b Ls j : Nat} {xs : Nat → Int32} {x : Int32} (hX : va_X b Ls xs s s.heap) (hbl : b < s.heap.size) (hz : ¬ z0 ≤ b) (d : decode cc pc = .ok (.iaload, 1)) (hx : x = nI j) (hj : j < Ls) (hL : Ls < 2 ^ 31) (kk : vV p l e R s m args below meth c nL z0 D cells slots Q n ad g (pc + 1) L (.int (xs j) :: st)) : vV p l e R s m args below meth c nL z0 D cells slots Q n ad g pc L (.int x :: .ref b :: st) := fun H locs ls hS hP hD hl => by
  subst hx
  refine va_sld X.1 X.2.1 hX hbl hz hS (vp_in_nI hj hL) d ?_
  rw [nI_clamp (by omega)]
  exact kk H locs ls hS hP hD hl
theorem v_slen (X : vCx p s m args c cc own nL z0 D cy) {b Ls : Nat} {xs : Nat → Int32} (hX : va_X b Ls xs s s.heap) (hbl : b < s.heap.size) (hz : ¬ z0 ≤ b) (d : decode cc pc = .ok (.arraylength, 1)) (kk : vV p l e R s m args below meth c nL z0 D cells slots Q n ad g (pc + 1) L (.int (nI Ls) :: st)) : vV p l e R s m args below meth c nL z0 D cells slots Q n ad g pc L (.ref b :: st) := fun H locs ls hS hP hD hl =>
  va_slen X.1 X.2.1 hX hbl hz hS d (kk H locs ls hS hP hD hl)
theorem v_lcmpE (X : vCx p s m args c cc own nL z0 D cy) {x y : Int64} (hxy : x = y) (d : decode cc pc = .ok (.lcmp, 1)) (kk : vV p l e R s m args below meth c nL z0 D cells slots Q n ad g (pc + 1) L (.int 0 :: st)) : vV p l e R s m args below meth c nL z0 D cells slots Q n ad g pc L (.long y :: .long x :: st) := fun H locs ls hS hP hD hl => by
  subst hxy
  have hexec := X.1
  have hb := X.2.1
  intro T hT XX
  obtain ⟨t, a, b⟩ := kk H locs ls hS hP hD hl T hT XX
  refine ⟨t, ?_, b⟩
  have h1 : ¬ (x > x) := Int64.lt_irrefl
  jvm_step XX.here [XX.here.top, hexec, hb, d, h1]
  exact a
end LW
theorem Inv.at54 {cy : Nat → ClassId} {ad : Nat → Nat} {d : Nat} {th : Int32} {g : Nat → va_E} (h : Inv cy ad d th g) : ∃ e1 fs, vAt 62 g 54 e1 ∧ e1 = .inr (5, fs) := by
  obtain ⟨S, ra, le, g0, d0, -, -, -, -, -, -, rfl⟩ := h
  exact ⟨_, _, ⟨by omega, rfl⟩, rfl⟩
theorem Inv.thrown {l : Launch} {z0 : Nat} {D : va_G} {cy : Nat → ClassId} {ad : Nat → Nat} {d : Nat} {th : Int32} {g : Nat → va_E} (h : Inv cy ad d th g) : Ct0 l yX5_thrown cX5_thrown 1 (some FieldType.int) 0 0 z0 D cy 62 ad g [.ref (ad 54)] (some (.int th)) g := by
  obtain ⟨S, ra, le, g0, d0, -, -, -, -, -, -, rfl⟩ := h
  exact m_thrown l (by decide)
theorem Inv.more {cy : Nat → ClassId} {ad : Nat → Nat} {d d' : Nat} {th : Int32} {g : Nat → va_E} (h : Inv cy ad d th g) (hd : d ≤ d') : Inv cy ad d' th g := by
  obtain ⟨S, ra, le, g0, d0, h1, h2, h3, h4, h5, h6, h7⟩ := h
  exact ⟨S, ra, le, g0, d0, h1, h2, h3, h4, by omega, h6, h7⟩
set_option maxRecDepth 100000 in
set_option maxHeartbeats 4000000 in
theorem lc_setWeather (l : Launch) (hst : l.stackTraces = false) {p : Program} {e : Env} {s : State} {m : MethodId} {args : Array Value} {below : List Frame} {meth : Method} {c : Code} {cells slots : Nat} {Q : State → Prop} {z0 b Ls t d : Nat} {xs : Nat → Int32} {D : va_G} {cy : Nat → ClassId} {ad : Nat → Nat} {th : Int32} {g : Nat → va_E} (X : vCx p s m args c cL_law RL 9 z0 D cy) (hX : va_X b Ls xs s s.heap) (hbl : b < s.heap.size) (hz : ¬ z0 ≤ b) (ht : 5 * t + 5 ≤ Ls) (hLs : Ls ≤ 2560) (hI : Inv cy ad d th g) (hdd : d ≤ 1000000) (hc : cells + 96 ≤ 652942) (hs : slots + 635 ≤ 7137278) (kk : ∀ th' g', Inv cy ad (d + 100) th' g' → vV p l e room_1 s m args below meth c 9 z0 D (cells + 96) (slots + 635) Q 62 ad g' 1427 [some (.ref b), some (.ref (ad 0)), some (.ref (ad 54)), some (.ref (ad 61)), some (.int (nI (5 * t))), none, none, none, none] []) : vV p l e room_1 s m args below meth c 9 z0 D cells slots Q 62 ad g 136 [some (.ref b), some (.ref (ad 0)), some (.ref (ad 54)), some (.ref (ad 61)), some (.int (nI (5 * t))), none, none, none, none] [] := by
  refine v_aload1 X dL_law_136 rfl ?_
  refine v_aload0 X dL_law_137 rfl ?_
  refine v_iload X dL_law_138 rfl ?_
  refine v_ico (v := 1) X dL_law_140 (by decide) ?_
  refine v_iadd X dL_law_141 ?_
  refine v_sld X hX hbl hz dL_law_142 (nI_add (5 * t) 1) (by omega) (by omega) ?_
  refine v_aload0 X dL_law_143 rfl ?_
  refine v_iload X dL_law_144 rfl ?_
  refine v_ico (v := 2) X dL_law_146 (by decide) ?_
  refine v_iadd X dL_law_147 ?_
  refine v_sld X hX hbl hz dL_law_148 (nI_add (5 * t) 2) (by omega) (by omega) ?_
  refine v_aload0 X dL_law_149 rfl ?_
  refine v_iload X dL_law_150 rfl ?_
  refine v_ico (v := 3) X dL_law_152 (by decide) ?_
  refine v_iadd X dL_law_153 ?_
  refine v_sld X hX hbl hz dL_law_154 (nI_add (5 * t) 3) (by omega) (by omega) ?_
  refine v_aload3 X dL_law_155 rfl ?_
  obtain ⟨PW, hW, hrest⟩ := co_setWeather l hst (z0 := z0) (D := D) hI hdd (xs (5 * t + 1)) (xs (5 * t + 2)) (xs (5 * t + 3))
  refine v_callSW (As := [.ref (ad 0), .int (xs (5 * t + 1)), .int (xs (5 * t + 2)), .int (xs (5 * t + 3)), .ref (ad 61)]) X wm_L_78 wt_L_setWeather wz_L wc_L_setWeather ⟨by decide, by decide, (show (parseMethodDescriptor yL_setWeather.desc).map (fun d => d.parameters.length) = some 5 from by decide +kernel)⟩ dL_law_156 hW rfl (Nat.le_of_ble_eq_true rfl) ⟨(Nat.le_of_ble_eq_true rfl), (Nat.le_of_ble_eq_true rfl), by show cells + 1 ≤ 652942; omega, by show slots + 6 ≤ 7137278; omega⟩ ?_
  intro r n' ad' g1 hp
  obtain ⟨k, b2, g2, rm, mc, ms, er, en, ea, ⟨q1, q2, q3, q4, q5, q6⟩, ⟨e1, fs, he1, he2⟩, hM, hI2, hk0, hB2⟩ := hrest r n' ad' g1 hp
  rw [er, en, ea]
  refine v_istore5 X rfl (Nat.le_of_ble_eq_true rfl) dL_law_159 ?_
  refine v_aload2 X dL_law_161 rfl ?_
  refine v_aload0 X dL_law_162 rfl ?_
  refine v_iload X dL_law_163 rfl ?_
  refine v_ico (v := 1) X dL_law_165 (by decide) ?_
  refine v_iadd X dL_law_166 ?_
  refine v_sld X hX hbl hz dL_law_167 (nI_add (5 * t) 1) (by omega) (by omega) ?_
  refine v_aload0 X dL_law_168 rfl ?_
  refine v_iload X dL_law_169 rfl ?_
  refine v_ico (v := 2) X dL_law_171 (by decide) ?_
  refine v_iadd X dL_law_172 ?_
  refine v_sld X hX hbl hz dL_law_173 (nI_add (5 * t) 2) (by omega) (by omega) ?_
  refine v_aload0 X dL_law_174 rfl ?_
  refine v_iload X dL_law_175 rfl ?_
  refine v_ico (v := 3) X dL_law_177 (by decide) ?_
  refine v_iadd X dL_law_178 ?_
  refine v_sld X hX hbl hz dL_law_179 (nI_add (5 * t) 3) (by omega) (by omega) ?_
  refine v_callV (As := [.int (xs (5 * t + 1)), .int (xs (5 * t + 2)), .int (xs (5 * t + 3))]) X wm_L_83 wi_X5_setWeather ws_X5_setWeather wz_X5 wc_X5_setWeather ⟨rfl, by decide, by decide, (show (parseMethodDescriptor yX5_setWeather.desc).map (fun d => d.parameters.length) = some 3 from by decide +kernel)⟩ rfl dL_law_180 hM (he2 ▸ he1) rfl (Nat.le_of_ble_eq_true rfl) ⟨q1, q2, by show rm.frames + 1 ≤ 11; omega, by show 8 + (5 + 11) + rm.locals ≤ 390; omega, by show cells + 1 + mc ≤ 652942; omega, by show slots + 6 + ms ≤ 7137278; omega⟩ ?_
  rintro r2 n2 ad2 g3 ⟨er2, en2, ea2, eg2⟩
  rw [er2, en2, ea2, eg2]
  refine v_istore6 X rfl (Nat.le_of_ble_eq_true rfl) dL_law_183 ?_
  refine v_aload2 X dL_law_185 rfl ?_
  obtain ⟨e3, fs3, he3, he4⟩ := hI2.at54
  refine cl_L_84 X dL_law_186 hI2.thrown he3 he4 (Nat.le_of_ble_eq_true rfl) ⟨rfl, rfl, (Nat.le_of_ble_eq_true rfl), (Nat.le_of_ble_eq_true rfl), by show cells + 1 + mc + 0 ≤ 652942; omega, by show slots + 6 + ms + 0 ≤ 7137278; omega⟩ ?_
  rintro r4 n4 ad4 g4 ⟨er4, en4, ea4, eg4⟩
  rw [er4, en4, ea4, eg4]
  refine v_iload X dL_law_189 rfl ?_
  refine v_icmp_eq (tgt := 196) X dL_law_191 (by decide) (fun _ => ?_) (fun hc => absurd rfl hc)
  have hend : vV p l e room_1 s m args below meth c 9 z0 D (cells + 1 + mc + 0) (slots + 6 + ms + 0) Q 62 ad g2 213 [some (.ref b), some (.ref (ad 0)), some (.ref (ad 54)), some (.ref (ad 61)), some (.int (nI (5 * t))), none, none, none, none] [] := by
    refine v_goto (tgt := 1427) X dL_law_213 (by decide) ?_
    exact (kk k g2 hI2).wd (by omega) (by omega)
  have hend' : vV p l e room_1 s m args below meth c 9 z0 D (cells + 1 + mc + 0) (slots + 6 + ms + 0) Q 62 ad g2 213 [some (.ref b), some (.ref (ad 0)), some (.ref (ad 54)), some (.ref (ad 61)), some (.int (nI (5 * t))), some (.int k), some (.int b2), none, none] [] := vV.le (A := [some (.ref b), some (.ref (ad 0)), some (.ref (ad 54)), some (.ref (ad 61)), some (.int (nI (5 * t))), none, none, none, none]) ⟨rfl, rfl, rfl, rfl, rfl, trivial⟩ hend
  refine v_iload X dL_law_196 rfl ?_
  refine v_if_ne (tgt := 213) X dL_law_198 (by decide) (fun _ => hend') (fun hk => ?_)
  obtain ⟨f, hf, hf2⟩ := hk0 hk
  refine v_aload3 X dL_law_201 rfl ?_
  refine v_ico (v := 0) X dL_law_202 (by decide) ?_
  refine v_lald (j := 0) X dL_law_203 hf rfl (by decide) (by decide) ?_
  refine v_iload X dL_law_204 rfl ?_
  refine v_i2l X dL_law_206 ?_
  refine v_lcmpE X hf2 dL_law_207 ?_
  refine v_if_eq (tgt := 213) X dL_law_208 (by decide) (fun _ => ?_) (fun hc => absurd rfl hc)
  exact hend'
set_option maxRecDepth 100000 in
set_option maxHeartbeats 4000000 in
theorem lc_build (l : Launch) (hst : l.stackTraces = false) {p : Program} {e : Env} {s : State} {m : MethodId} {args : Array Value} {below : List Frame} {meth : Method} {c : Code} {cells slots : Nat} {Q : State → Prop} {z0 b Ls t d : Nat} {xs : Nat → Int32} {D : va_G} {cy : Nat → ClassId} {ad : Nat → Nat} {th : Int32} {g : Nat → va_E} (X : vCx p s m args c cL_law RL 9 z0 D cy) (hX : va_X b Ls xs s s.heap) (hbl : b < s.heap.size) (hz : ¬ z0 ≤ b) (ht : 5 * t + 5 ≤ Ls) (hLs : Ls ≤ 2560) (hI : Inv cy ad d th g) (hdd : d ≤ 1000000) (hc : cells + 96 ≤ 652942) (hs : slots + 635 ≤ 7137278) (kk : ∀ th' g', Inv cy ad (d + 100) th' g' → vV p l e room_1 s m args below meth c 9 z0 D (cells + 96) (slots + 635) Q 62 ad g' 1427 [some (.ref b), some (.ref (ad 0)), some (.ref (ad 54)), some (.ref (ad 61)), some (.int (nI (5 * t))), none, none, none, none] []) : vV p l e room_1 s m args below meth c 9 z0 D cells slots Q 62 ad g 216 [some (.ref b), some (.ref (ad 0)), some (.ref (ad 54)), some (.ref (ad 61)), some (.int (nI (5 * t))), none, none, none, none] [] := by
  refine v_aload1 X dL_law_216 rfl ?_
  refine v_aload0 X dL_law_217 rfl ?_
  refine v_iload X dL_law_218 rfl ?_
  refine v_ico (v := 1) X dL_law_220 (by decide) ?_
  refine v_iadd X dL_law_221 ?_
  refine v_sld X hX hbl hz dL_law_222 (nI_add (5 * t) 1) (by omega) (by omega) ?_
  refine v_aload0 X dL_law_223 rfl ?_
  refine v_iload X dL_law_224 rfl ?_
  refine v_ico (v := 2) X dL_law_226 (by decide) ?_
  refine v_iadd X dL_law_227 ?_
  refine v_sld X hX hbl hz dL_law_228 (nI_add (5 * t) 2) (by omega) (by omega) ?_
  refine v_aload0 X dL_law_229 rfl ?_
  refine v_iload X dL_law_230 rfl ?_
  refine v_ico (v := 3) X dL_law_232 (by decide) ?_
  refine v_iadd X dL_law_233 ?_
  refine v_sld X hX hbl hz dL_law_234 (nI_add (5 * t) 3) (by omega) (by omega) ?_
  refine v_aload0 X dL_law_235 rfl ?_
  refine v_iload X dL_law_236 rfl ?_
  refine v_ico (v := 4) X dL_law_238 (by decide) ?_
  refine v_iadd X dL_law_239 ?_
  refine v_sld X hX hbl hz dL_law_240 (nI_add (5 * t) 4) (by omega) (by omega) ?_
  refine v_aload3 X dL_law_241 rfl ?_
  obtain ⟨PW, hW, hrest⟩ := co_build l hst (z0 := z0) (D := D) hI hdd (xs (5 * t + 1)) (xs (5 * t + 2)) (xs (5 * t + 3)) (xs (5 * t + 4))
  refine v_callSW (As := [.ref (ad 0), .int (xs (5 * t + 1)), .int (xs (5 * t + 2)), .int (xs (5 * t + 3)), .int (xs (5 * t + 4)), .ref (ad 61)]) X wm_L_88 wt_L_build wz_L wc_L_build ⟨by decide, by decide, (show (parseMethodDescriptor yL_build.desc).map (fun d => d.parameters.length) = some 6 from by decide +kernel)⟩ dL_law_242 hW rfl (Nat.le_of_ble_eq_true rfl) ⟨(Nat.le_of_ble_eq_true rfl), (Nat.le_of_ble_eq_true rfl), by show cells + 1 ≤ 652942; omega, by show slots + 6 ≤ 7137278; omega⟩ ?_
  intro r n' ad' g1 hp
  obtain ⟨k, b2, g2, rm, mc, ms, er, en, ea, ⟨q1, q2, q3, q4, q5, q6⟩, ⟨e1, fs, he1, he2⟩, hM, hI2, hk0, hB2⟩ := hrest r n' ad' g1 hp
  rw [er, en, ea]
  refine v_istore5 X rfl (Nat.le_of_ble_eq_true rfl) dL_law_245 ?_
  refine v_aload2 X dL_law_247 rfl ?_
  refine v_aload0 X dL_law_248 rfl ?_
  refine v_iload X dL_law_249 rfl ?_
  refine v_ico (v := 1) X dL_law_251 (by decide) ?_
  refine v_iadd X dL_law_252 ?_
  refine v_sld X hX hbl hz dL_law_253 (nI_add (5 * t) 1) (by omega) (by omega) ?_
  refine v_aload0 X dL_law_254 rfl ?_
  refine v_iload X dL_law_255 rfl ?_
  refine v_ico (v := 2) X dL_law_257 (by decide) ?_
  refine v_iadd X dL_law_258 ?_
  refine v_sld X hX hbl hz dL_law_259 (nI_add (5 * t) 2) (by omega) (by omega) ?_
  refine v_aload0 X dL_law_260 rfl ?_
  refine v_iload X dL_law_261 rfl ?_
  refine v_ico (v := 3) X dL_law_263 (by decide) ?_
  refine v_iadd X dL_law_264 ?_
  refine v_sld X hX hbl hz dL_law_265 (nI_add (5 * t) 3) (by omega) (by omega) ?_
  refine v_aload0 X dL_law_266 rfl ?_
  refine v_iload X dL_law_267 rfl ?_
  refine v_ico (v := 4) X dL_law_269 (by decide) ?_
  refine v_iadd X dL_law_270 ?_
  refine v_sld X hX hbl hz dL_law_271 (nI_add (5 * t) 4) (by omega) (by omega) ?_
  refine v_callV (As := [.int (xs (5 * t + 1)), .int (xs (5 * t + 2)), .int (xs (5 * t + 3)), .int (xs (5 * t + 4))]) X wm_L_91 wi_X5_build ws_X5_build wz_X5 wc_X5_build ⟨rfl, by decide, by decide, (show (parseMethodDescriptor yX5_build.desc).map (fun d => d.parameters.length) = some 4 from by decide +kernel)⟩ rfl dL_law_272 hM (he2 ▸ he1) rfl (Nat.le_of_ble_eq_true rfl) ⟨q1, q2, by show rm.frames + 1 ≤ 11; omega, by show 8 + (6 + 11) + rm.locals ≤ 390; omega, by show cells + 1 + mc ≤ 652942; omega, by show slots + 6 + ms ≤ 7137278; omega⟩ ?_
  rintro r2 n2 ad2 g3 ⟨er2, en2, ea2, eg2⟩
  rw [er2, en2, ea2, eg2]
  refine v_istore6 X rfl (Nat.le_of_ble_eq_true rfl) dL_law_275 ?_
  refine v_aload2 X dL_law_277 rfl ?_
  obtain ⟨e3, fs3, he3, he4⟩ := hI2.at54
  refine cl_L_84 X dL_law_278 hI2.thrown he3 he4 (Nat.le_of_ble_eq_true rfl) ⟨rfl, rfl, (Nat.le_of_ble_eq_true rfl), (Nat.le_of_ble_eq_true rfl), by show cells + 1 + mc + 0 ≤ 652942; omega, by show slots + 6 + ms + 0 ≤ 7137278; omega⟩ ?_
  rintro r4 n4 ad4 g4 ⟨er4, en4, ea4, eg4⟩
  rw [er4, en4, ea4, eg4]
  refine v_iload X dL_law_281 rfl ?_
  refine v_icmp_eq (tgt := 288) X dL_law_283 (by decide) (fun _ => ?_) (fun hc => absurd rfl hc)
  have hend : vV p l e room_1 s m args below meth c 9 z0 D (cells + 1 + mc + 0) (slots + 6 + ms + 0) Q 62 ad g2 305 [some (.ref b), some (.ref (ad 0)), some (.ref (ad 54)), some (.ref (ad 61)), some (.int (nI (5 * t))), none, none, none, none] [] := by
    refine v_goto (tgt := 1427) X dL_law_305 (by decide) ?_
    exact (kk k g2 hI2).wd (by omega) (by omega)
  have hend' : vV p l e room_1 s m args below meth c 9 z0 D (cells + 1 + mc + 0) (slots + 6 + ms + 0) Q 62 ad g2 305 [some (.ref b), some (.ref (ad 0)), some (.ref (ad 54)), some (.ref (ad 61)), some (.int (nI (5 * t))), some (.int k), some (.int b2), none, none] [] := vV.le (A := [some (.ref b), some (.ref (ad 0)), some (.ref (ad 54)), some (.ref (ad 61)), some (.int (nI (5 * t))), none, none, none, none]) ⟨rfl, rfl, rfl, rfl, rfl, trivial⟩ hend
  refine v_iload X dL_law_288 rfl ?_
  refine v_if_ne (tgt := 305) X dL_law_290 (by decide) (fun _ => hend') (fun hk => ?_)
  obtain ⟨f, hf, hf2⟩ := hk0 hk
  refine v_aload3 X dL_law_293 rfl ?_
  refine v_ico (v := 0) X dL_law_294 (by decide) ?_
  refine v_lald (j := 0) X dL_law_295 hf rfl (by decide) (by decide) ?_
  refine v_iload X dL_law_296 rfl ?_
  refine v_i2l X dL_law_298 ?_
  refine v_lcmpE X hf2 dL_law_299 ?_
  refine v_if_eq (tgt := 305) X dL_law_300 (by decide) (fun _ => ?_) (fun hc => absurd rfl hc)
  exact hend'
set_option maxRecDepth 100000 in
set_option maxHeartbeats 4000000 in
theorem lc_chain (l : Launch) (hst : l.stackTraces = false) {p : Program} {e : Env} {s : State} {m : MethodId} {args : Array Value} {below : List Frame} {meth : Method} {c : Code} {cells slots : Nat} {Q : State → Prop} {z0 b Ls t d : Nat} {xs : Nat → Int32} {D : va_G} {cy : Nat → ClassId} {ad : Nat → Nat} {th : Int32} {g : Nat → va_E} (X : vCx p s m args c cL_law RL 9 z0 D cy) (hX : va_X b Ls xs s s.heap) (hbl : b < s.heap.size) (hz : ¬ z0 ≤ b) (ht : 5 * t + 5 ≤ Ls) (hLs : Ls ≤ 2560) (hI : Inv cy ad d th g) (hdd : d ≤ 1000000) (hc : cells + 96 ≤ 652942) (hs : slots + 635 ≤ 7137278) (kk : ∀ th' g', Inv cy ad (d + 100) th' g' → vV p l e room_1 s m args below meth c 9 z0 D (cells + 96) (slots + 635) Q 62 ad g' 1427 [some (.ref b), some (.ref (ad 0)), some (.ref (ad 54)), some (.ref (ad 61)), some (.int (nI (5 * t))), none, none, none, none] []) : vV p l e room_1 s m args below meth c 9 z0 D cells slots Q 62 ad g 308 [some (.ref b), some (.ref (ad 0)), some (.ref (ad 54)), some (.ref (ad 61)), some (.int (nI (5 * t))), none, none, none, none] [] := by
  refine v_aload1 X dL_law_308 rfl ?_
  refine v_aload0 X dL_law_309 rfl ?_
  refine v_iload X dL_law_310 rfl ?_
  refine v_ico (v := 1) X dL_law_312 (by decide) ?_
  refine v_iadd X dL_law_313 ?_
  refine v_sld X hX hbl hz dL_law_314 (nI_add (5 * t) 1) (by omega) (by omega) ?_
  refine v_aload0 X dL_law_315 rfl ?_
  refine v_iload X dL_law_316 rfl ?_
  refine v_ico (v := 2) X dL_law_318 (by decide) ?_
  refine v_iadd X dL_law_319 ?_
  refine v_sld X hX hbl hz dL_law_320 (nI_add (5 * t) 2) (by omega) (by omega) ?_
  refine v_aload3 X dL_law_321 rfl ?_
  obtain ⟨PW, hW, hrest⟩ := co_chain l hst (z0 := z0) (D := D) hI hdd (xs (5 * t + 1)) (xs (5 * t + 2))
  refine v_callSW (As := [.ref (ad 0), .int (xs (5 * t + 1)), .int (xs (5 * t + 2)), .ref (ad 61)]) X wm_L_92 wt_L_chain wz_L wc_L_chain ⟨by decide, by decide, (show (parseMethodDescriptor yL_chain.desc).map (fun d => d.parameters.length) = some 4 from by decide +kernel)⟩ dL_law_322 hW rfl (Nat.le_of_ble_eq_true rfl) ⟨(Nat.le_of_ble_eq_true rfl), (Nat.le_of_ble_eq_true rfl), by show cells + 1 ≤ 652942; omega, by show slots + 6 ≤ 7137278; omega⟩ ?_
  intro r n' ad' g1 hp
  obtain ⟨k, b2, g2, rm, mc, ms, er, en, ea, ⟨q1, q2, q3, q4, q5, q6⟩, ⟨e1, fs, he1, he2⟩, hM, hI2, hk0, hB2⟩ := hrest r n' ad' g1 hp
  rw [er, en, ea]
  refine v_istore5 X rfl (Nat.le_of_ble_eq_true rfl) dL_law_325 ?_
  refine v_aload2 X dL_law_327 rfl ?_
  refine v_aload0 X dL_law_328 rfl ?_
  refine v_iload X dL_law_329 rfl ?_
  refine v_ico (v := 1) X dL_law_331 (by decide) ?_
  refine v_iadd X dL_law_332 ?_
  refine v_sld X hX hbl hz dL_law_333 (nI_add (5 * t) 1) (by omega) (by omega) ?_
  refine v_aload0 X dL_law_334 rfl ?_
  refine v_iload X dL_law_335 rfl ?_
  refine v_ico (v := 2) X dL_law_337 (by decide) ?_
  refine v_iadd X dL_law_338 ?_
  refine v_sld X hX hbl hz dL_law_339 (nI_add (5 * t) 2) (by omega) (by omega) ?_
  refine v_callV (As := [.int (xs (5 * t + 1)), .int (xs (5 * t + 2))]) X wm_L_95 wi_X5_chain ws_X5_chain wz_X5 wc_X5_chain ⟨rfl, by decide, by decide, (show (parseMethodDescriptor yX5_chain.desc).map (fun d => d.parameters.length) = some 2 from by decide +kernel)⟩ rfl dL_law_340 hM (he2 ▸ he1) rfl (Nat.le_of_ble_eq_true rfl) ⟨q1, q2, by show rm.frames + 1 ≤ 11; omega, by show 8 + (5 + 11) + rm.locals ≤ 390; omega, by show cells + 1 + mc ≤ 652942; omega, by show slots + 6 + ms ≤ 7137278; omega⟩ ?_
  rintro r2 n2 ad2 g3 ⟨er2, en2, ea2, eg2⟩
  rw [er2, en2, ea2, eg2]
  refine v_istore6 X rfl (Nat.le_of_ble_eq_true rfl) dL_law_343 ?_
  refine v_aload2 X dL_law_345 rfl ?_
  obtain ⟨e3, fs3, he3, he4⟩ := hI2.at54
  refine cl_L_84 X dL_law_346 hI2.thrown he3 he4 (Nat.le_of_ble_eq_true rfl) ⟨rfl, rfl, (Nat.le_of_ble_eq_true rfl), (Nat.le_of_ble_eq_true rfl), by show cells + 1 + mc + 0 ≤ 652942; omega, by show slots + 6 + ms + 0 ≤ 7137278; omega⟩ ?_
  rintro r4 n4 ad4 g4 ⟨er4, en4, ea4, eg4⟩
  rw [er4, en4, ea4, eg4]
  refine v_iload X dL_law_349 rfl ?_
  refine v_icmp_eq (tgt := 356) X dL_law_351 (by decide) (fun _ => ?_) (fun hc => absurd rfl hc)
  have hend : vV p l e room_1 s m args below meth c 9 z0 D (cells + 1 + mc + 0) (slots + 6 + ms + 0) Q 62 ad g2 373 [some (.ref b), some (.ref (ad 0)), some (.ref (ad 54)), some (.ref (ad 61)), some (.int (nI (5 * t))), none, none, none, none] [] := by
    refine v_goto (tgt := 1427) X dL_law_373 (by decide) ?_
    exact (kk k g2 hI2).wd (by omega) (by omega)
  have hend' : vV p l e room_1 s m args below meth c 9 z0 D (cells + 1 + mc + 0) (slots + 6 + ms + 0) Q 62 ad g2 373 [some (.ref b), some (.ref (ad 0)), some (.ref (ad 54)), some (.ref (ad 61)), some (.int (nI (5 * t))), some (.int k), some (.int b2), none, none] [] := vV.le (A := [some (.ref b), some (.ref (ad 0)), some (.ref (ad 54)), some (.ref (ad 61)), some (.int (nI (5 * t))), none, none, none, none]) ⟨rfl, rfl, rfl, rfl, rfl, trivial⟩ hend
  refine v_iload X dL_law_356 rfl ?_
  refine v_if_ne (tgt := 373) X dL_law_358 (by decide) (fun _ => hend') (fun hk => ?_)
  obtain ⟨f, hf, hf2⟩ := hk0 hk
  refine v_aload3 X dL_law_361 rfl ?_
  refine v_ico (v := 0) X dL_law_362 (by decide) ?_
  refine v_lald (j := 0) X dL_law_363 hf rfl (by decide) (by decide) ?_
  refine v_iload X dL_law_364 rfl ?_
  refine v_i2l X dL_law_366 ?_
  refine v_lcmpE X hf2 dL_law_367 ?_
  refine v_if_eq (tgt := 373) X dL_law_368 (by decide) (fun _ => ?_) (fun hc => absurd rfl hc)
  exact hend'
set_option maxRecDepth 100000 in
set_option maxHeartbeats 4000000 in
theorem lc_lay (l : Launch) (hst : l.stackTraces = false) {p : Program} {e : Env} {s : State} {m : MethodId} {args : Array Value} {below : List Frame} {meth : Method} {c : Code} {cells slots : Nat} {Q : State → Prop} {z0 b Ls t d : Nat} {xs : Nat → Int32} {D : va_G} {cy : Nat → ClassId} {ad : Nat → Nat} {th : Int32} {g : Nat → va_E} (X : vCx p s m args c cL_law RL 9 z0 D cy) (hX : va_X b Ls xs s s.heap) (hbl : b < s.heap.size) (hz : ¬ z0 ≤ b) (ht : 5 * t + 5 ≤ Ls) (hLs : Ls ≤ 2560) (hI : Inv cy ad d th g) (hdd : d ≤ 1000000) (hc : cells + 96 ≤ 652942) (hs : slots + 635 ≤ 7137278) (kk : ∀ th' g', Inv cy ad (d + 100) th' g' → vV p l e room_1 s m args below meth c 9 z0 D (cells + 96) (slots + 635) Q 62 ad g' 1427 [some (.ref b), some (.ref (ad 0)), some (.ref (ad 54)), some (.ref (ad 61)), some (.int (nI (5 * t))), none, none, none, none] []) : vV p l e room_1 s m args below meth c 9 z0 D cells slots Q 62 ad g 376 [some (.ref b), some (.ref (ad 0)), some (.ref (ad 54)), some (.ref (ad 61)), some (.int (nI (5 * t))), none, none, none, none] [] := by
  refine v_aload1 X dL_law_376 rfl ?_
  refine v_aload0 X dL_law_377 rfl ?_
  refine v_iload X dL_law_378 rfl ?_
  refine v_ico (v := 1) X dL_law_380 (by decide) ?_
  refine v_iadd X dL_law_381 ?_
  refine v_sld X hX hbl hz dL_law_382 (nI_add (5 * t) 1) (by omega) (by omega) ?_
  refine v_aload0 X dL_law_383 rfl ?_
  refine v_iload X dL_law_384 rfl ?_
  refine v_ico (v := 2) X dL_law_386 (by decide) ?_
  refine v_iadd X dL_law_387 ?_
  refine v_sld X hX hbl hz dL_law_388 (nI_add (5 * t) 2) (by omega) (by omega) ?_
  refine v_aload0 X dL_law_389 rfl ?_
  refine v_iload X dL_law_390 rfl ?_
  refine v_ico (v := 3) X dL_law_392 (by decide) ?_
  refine v_iadd X dL_law_393 ?_
  refine v_sld X hX hbl hz dL_law_394 (nI_add (5 * t) 3) (by omega) (by omega) ?_
  refine v_aload3 X dL_law_395 rfl ?_
  obtain ⟨PW, hW, hrest⟩ := co_lay l hst (z0 := z0) (D := D) hI hdd (xs (5 * t + 1)) (xs (5 * t + 2)) (xs (5 * t + 3))
  refine v_callSW (As := [.ref (ad 0), .int (xs (5 * t + 1)), .int (xs (5 * t + 2)), .int (xs (5 * t + 3)), .ref (ad 61)]) X wm_L_96 wt_L_lay wz_L wc_L_lay ⟨by decide, by decide, (show (parseMethodDescriptor yL_lay.desc).map (fun d => d.parameters.length) = some 5 from by decide +kernel)⟩ dL_law_396 hW rfl (Nat.le_of_ble_eq_true rfl) ⟨(Nat.le_of_ble_eq_true rfl), (Nat.le_of_ble_eq_true rfl), by show cells + 1 ≤ 652942; omega, by show slots + 6 ≤ 7137278; omega⟩ ?_
  intro r n' ad' g1 hp
  obtain ⟨k, b2, g2, rm, mc, ms, er, en, ea, ⟨q1, q2, q3, q4, q5, q6⟩, ⟨e1, fs, he1, he2⟩, hM, hI2, hk0, hB2⟩ := hrest r n' ad' g1 hp
  rw [er, en, ea]
  refine v_istore5 X rfl (Nat.le_of_ble_eq_true rfl) dL_law_399 ?_
  refine v_aload2 X dL_law_401 rfl ?_
  refine v_aload0 X dL_law_402 rfl ?_
  refine v_iload X dL_law_403 rfl ?_
  refine v_ico (v := 1) X dL_law_405 (by decide) ?_
  refine v_iadd X dL_law_406 ?_
  refine v_sld X hX hbl hz dL_law_407 (nI_add (5 * t) 1) (by omega) (by omega) ?_
  refine v_aload0 X dL_law_408 rfl ?_
  refine v_iload X dL_law_409 rfl ?_
  refine v_ico (v := 2) X dL_law_411 (by decide) ?_
  refine v_iadd X dL_law_412 ?_
  refine v_sld X hX hbl hz dL_law_413 (nI_add (5 * t) 2) (by omega) (by omega) ?_
  refine v_aload0 X dL_law_414 rfl ?_
  refine v_iload X dL_law_415 rfl ?_
  refine v_ico (v := 3) X dL_law_417 (by decide) ?_
  refine v_iadd X dL_law_418 ?_
  refine v_sld X hX hbl hz dL_law_419 (nI_add (5 * t) 3) (by omega) (by omega) ?_
  refine v_callV (As := [.int (xs (5 * t + 1)), .int (xs (5 * t + 2)), .int (xs (5 * t + 3))]) X wm_L_98 wi_X5_lay ws_X5_lay wz_X5 wc_X5_lay ⟨rfl, by decide, by decide, (show (parseMethodDescriptor yX5_lay.desc).map (fun d => d.parameters.length) = some 3 from by decide +kernel)⟩ rfl dL_law_420 hM (he2 ▸ he1) rfl (Nat.le_of_ble_eq_true rfl) ⟨q1, q2, by show rm.frames + 1 ≤ 11; omega, by show 8 + (5 + 11) + rm.locals ≤ 390; omega, by show cells + 1 + mc ≤ 652942; omega, by show slots + 6 + ms ≤ 7137278; omega⟩ ?_
  rintro r2 n2 ad2 g3 ⟨er2, en2, ea2, eg2⟩
  rw [er2, en2, ea2, eg2]
  refine v_istore6 X rfl (Nat.le_of_ble_eq_true rfl) dL_law_423 ?_
  refine v_aload2 X dL_law_425 rfl ?_
  obtain ⟨e3, fs3, he3, he4⟩ := hI2.at54
  refine cl_L_84 X dL_law_426 hI2.thrown he3 he4 (Nat.le_of_ble_eq_true rfl) ⟨rfl, rfl, (Nat.le_of_ble_eq_true rfl), (Nat.le_of_ble_eq_true rfl), by show cells + 1 + mc + 0 ≤ 652942; omega, by show slots + 6 + ms + 0 ≤ 7137278; omega⟩ ?_
  rintro r4 n4 ad4 g4 ⟨er4, en4, ea4, eg4⟩
  rw [er4, en4, ea4, eg4]
  refine v_iload X dL_law_429 rfl ?_
  refine v_icmp_eq (tgt := 436) X dL_law_431 (by decide) (fun _ => ?_) (fun hc => absurd rfl hc)
  have hend : vV p l e room_1 s m args below meth c 9 z0 D (cells + 1 + mc + 0) (slots + 6 + ms + 0) Q 62 ad g2 453 [some (.ref b), some (.ref (ad 0)), some (.ref (ad 54)), some (.ref (ad 61)), some (.int (nI (5 * t))), none, none, none, none] [] := by
    refine v_goto (tgt := 1427) X dL_law_453 (by decide) ?_
    exact (kk k g2 hI2).wd (by omega) (by omega)
  have hend' : vV p l e room_1 s m args below meth c 9 z0 D (cells + 1 + mc + 0) (slots + 6 + ms + 0) Q 62 ad g2 453 [some (.ref b), some (.ref (ad 0)), some (.ref (ad 54)), some (.ref (ad 61)), some (.int (nI (5 * t))), some (.int k), some (.int b2), none, none] [] := vV.le (A := [some (.ref b), some (.ref (ad 0)), some (.ref (ad 54)), some (.ref (ad 61)), some (.int (nI (5 * t))), none, none, none, none]) ⟨rfl, rfl, rfl, rfl, rfl, trivial⟩ hend
  refine v_iload X dL_law_436 rfl ?_
  refine v_if_ne (tgt := 453) X dL_law_438 (by decide) (fun _ => hend') (fun hk => ?_)
  obtain ⟨f, hf, hf2⟩ := hk0 hk
  refine v_aload3 X dL_law_441 rfl ?_
  refine v_ico (v := 0) X dL_law_442 (by decide) ?_
  refine v_lald (j := 0) X dL_law_443 hf rfl (by decide) (by decide) ?_
  refine v_iload X dL_law_444 rfl ?_
  refine v_i2l X dL_law_446 ?_
  refine v_lcmpE X hf2 dL_law_447 ?_
  refine v_if_eq (tgt := 453) X dL_law_448 (by decide) (fun _ => ?_) (fun hc => absurd rfl hc)
  exact hend'
set_option maxRecDepth 100000 in
set_option maxHeartbeats 4000000 in
theorem lc_turn (l : Launch) (hst : l.stackTraces = false) {p : Program} {e : Env} {s : State} {m : MethodId} {args : Array Value} {below : List Frame} {meth : Method} {c : Code} {cells slots : Nat} {Q : State → Prop} {z0 b Ls t d : Nat} {xs : Nat → Int32} {D : va_G} {cy : Nat → ClassId} {ad : Nat → Nat} {th : Int32} {g : Nat → va_E} (X : vCx p s m args c cL_law RL 9 z0 D cy) (hX : va_X b Ls xs s s.heap) (hbl : b < s.heap.size) (hz : ¬ z0 ≤ b) (ht : 5 * t + 5 ≤ Ls) (hLs : Ls ≤ 2560) (hI : Inv cy ad d th g) (hdd : d ≤ 1000000) (hc : cells + 96 ≤ 652942) (hs : slots + 635 ≤ 7137278) (kk : ∀ th' g', Inv cy ad (d + 100) th' g' → vV p l e room_1 s m args below meth c 9 z0 D (cells + 96) (slots + 635) Q 62 ad g' 1427 [some (.ref b), some (.ref (ad 0)), some (.ref (ad 54)), some (.ref (ad 61)), some (.int (nI (5 * t))), none, none, none, none] []) : vV p l e room_1 s m args below meth c 9 z0 D cells slots Q 62 ad g 456 [some (.ref b), some (.ref (ad 0)), some (.ref (ad 54)), some (.ref (ad 61)), some (.int (nI (5 * t))), none, none, none, none] [] := by
  by_cases hzz : xs (5 * t + 2) = 0
  · refine v_aload1 X dL_law_456 rfl ?_
    refine v_aload0 X dL_law_457 rfl ?_
    refine v_iload X dL_law_458 rfl ?_
    refine v_ico (v := 1) X dL_law_460 (by decide) ?_
    refine v_iadd X dL_law_461 ?_
    refine v_sld X hX hbl hz dL_law_462 (nI_add (5 * t) 1) (by omega) (by omega) ?_
    refine v_aload0 X dL_law_463 rfl ?_
    refine v_iload X dL_law_464 rfl ?_
    refine v_ico (v := 2) X dL_law_466 (by decide) ?_
    refine v_iadd X dL_law_467 ?_
    refine v_sld X hX hbl hz dL_law_468 (nI_add (5 * t) 2) (by omega) (by omega) ?_
    refine v_if_eq (tgt := 476) X dL_law_469 (by decide) (fun hc => ?_) (fun hc => absurd hzz hc)
    refine v_ico (v := 0) X dL_law_476 (by decide) ?_
    refine v_aload3 X dL_law_477 rfl ?_
    obtain ⟨PW, hW, hrest⟩ := co_turn l hst (z0 := z0) (D := D) hI hdd (xs (5 * t + 1)) (0) (Or.inl rfl)
    refine v_callSW (As := [.ref (ad 0), .int (xs (5 * t + 1)), .int (0), .ref (ad 61)]) X wm_L_99 wt_L_turn wz_L wc_L_turn ⟨by decide, by decide, (show (parseMethodDescriptor yL_turn.desc).map (fun d => d.parameters.length) = some 4 from by decide +kernel)⟩ dL_law_478 hW rfl (Nat.le_of_ble_eq_true rfl) ⟨(Nat.le_of_ble_eq_true rfl), (Nat.le_of_ble_eq_true rfl), by show cells + 1 ≤ 652942; omega, by show slots + 6 ≤ 7137278; omega⟩ ?_
    intro r n' ad' g1 hp
    obtain ⟨k, b2, g2, rm, mc, ms, er, en, ea, ⟨q1, q2, q3, q4, q5, q6⟩, ⟨e1, fs, he1, he2⟩, hM, hI2, hk0, hB2⟩ := hrest r n' ad' g1 hp
    rw [er, en, ea]
    refine v_istore5 X rfl (Nat.le_of_ble_eq_true rfl) dL_law_481 ?_
    refine v_aload2 X dL_law_483 rfl ?_
    refine v_aload0 X dL_law_484 rfl ?_
    refine v_iload X dL_law_485 rfl ?_
    refine v_ico (v := 1) X dL_law_487 (by decide) ?_
    refine v_iadd X dL_law_488 ?_
    refine v_sld X hX hbl hz dL_law_489 (nI_add (5 * t) 1) (by omega) (by omega) ?_
    refine v_aload0 X dL_law_490 rfl ?_
    refine v_iload X dL_law_491 rfl ?_
    refine v_ico (v := 2) X dL_law_493 (by decide) ?_
    refine v_iadd X dL_law_494 ?_
    refine v_sld X hX hbl hz dL_law_495 (nI_add (5 * t) 2) (by omega) (by omega) ?_
    refine v_if_eq (tgt := 503) X dL_law_496 (by decide) (fun hc => ?_) (fun hc => absurd hzz hc)
    refine v_ico (v := 0) X dL_law_503 (by decide) ?_
    refine v_callV (As := [.int (xs (5 * t + 1)), .int (0)]) X wm_L_102 wi_X5_turn ws_X5_turn wz_X5 wc_X5_turn ⟨rfl, by decide, by decide, (show (parseMethodDescriptor yX5_turn.desc).map (fun d => d.parameters.length) = some 2 from by decide +kernel)⟩ rfl dL_law_504 hM (he2 ▸ he1) rfl (Nat.le_of_ble_eq_true rfl) ⟨q1, q2, by show rm.frames + 1 ≤ 11; omega, by show 8 + (4 + 11) + rm.locals ≤ 390; omega, by show cells + 1 + mc ≤ 652942; omega, by show slots + 6 + ms ≤ 7137278; omega⟩ ?_
    rintro r2 n2 ad2 g3 ⟨er2, en2, ea2, eg2⟩
    rw [er2, en2, ea2, eg2]
    refine v_istore6 X rfl (Nat.le_of_ble_eq_true rfl) dL_law_507 ?_
    refine v_aload2 X dL_law_509 rfl ?_
    obtain ⟨e3, fs3, he3, he4⟩ := hI2.at54
    refine cl_L_84 X dL_law_510 hI2.thrown he3 he4 (Nat.le_of_ble_eq_true rfl) ⟨rfl, rfl, (Nat.le_of_ble_eq_true rfl), (Nat.le_of_ble_eq_true rfl), by show cells + 1 + mc + 0 ≤ 652942; omega, by show slots + 6 + ms + 0 ≤ 7137278; omega⟩ ?_
    rintro r4 n4 ad4 g4 ⟨er4, en4, ea4, eg4⟩
    rw [er4, en4, ea4, eg4]
    refine v_iload X dL_law_513 rfl ?_
    refine v_icmp_eq (tgt := 520) X dL_law_515 (by decide) (fun _ => ?_) (fun hc => absurd rfl hc)
    have hend : vV p l e room_1 s m args below meth c 9 z0 D (cells + 1 + mc + 0) (slots + 6 + ms + 0) Q 62 ad g2 544 [some (.ref b), some (.ref (ad 0)), some (.ref (ad 54)), some (.ref (ad 61)), some (.int (nI (5 * t))), none, none, none, none] [] := by
      refine v_goto (tgt := 1427) X dL_law_544 (by decide) ?_
      exact (kk k g2 hI2).wd (by omega) (by omega)
    have hend' : vV p l e room_1 s m args below meth c 9 z0 D (cells + 1 + mc + 0) (slots + 6 + ms + 0) Q 62 ad g2 544 [some (.ref b), some (.ref (ad 0)), some (.ref (ad 54)), some (.ref (ad 61)), some (.int (nI (5 * t))), some (.int k), some (.int b2), none, none] [] := vV.le (A := [some (.ref b), some (.ref (ad 0)), some (.ref (ad 54)), some (.ref (ad 61)), some (.int (nI (5 * t))), none, none, none, none]) ⟨rfl, rfl, rfl, rfl, rfl, trivial⟩ hend
    refine v_iload X dL_law_520 rfl ?_
    refine v_if_ne (tgt := 544) X dL_law_522 (by decide) (fun _ => hend') (fun hk => ?_)
    obtain ⟨f, hf, hf2⟩ := hk0 hk
    refine v_aload3 X dL_law_525 rfl ?_
    refine v_ico (v := 0) X dL_law_526 (by decide) ?_
    refine v_lald (j := 0) X dL_law_527 hf rfl (by decide) (by decide) ?_
    refine v_iload X dL_law_528 rfl ?_
    refine v_if_eq (tgt := 537) X dL_law_530 (by decide) (fun hc => ?_) (fun hc => ?_)
    · refine v_lco (v := 0) X dL_law_537 (by decide) ?_
      refine v_lcmpE X (by rw [hf2, hc]; decide) dL_law_538 ?_
      refine v_if_eq (tgt := 544) X dL_law_539 (by decide) (fun _ => hend') (fun hc => absurd rfl hc)
    · have hb1 := (hB2 rfl).resolve_left hc
      refine v_lco (v := 1) X dL_law_533 (by decide) ?_
      refine v_goto (tgt := 538) X dL_law_534 (by decide) ?_
      refine v_lcmpE X (by rw [hf2, hb1]; decide) dL_law_538 ?_
      refine v_if_eq (tgt := 544) X dL_law_539 (by decide) (fun _ => hend') (fun hc => absurd rfl hc)
  · refine v_aload1 X dL_law_456 rfl ?_
    refine v_aload0 X dL_law_457 rfl ?_
    refine v_iload X dL_law_458 rfl ?_
    refine v_ico (v := 1) X dL_law_460 (by decide) ?_
    refine v_iadd X dL_law_461 ?_
    refine v_sld X hX hbl hz dL_law_462 (nI_add (5 * t) 1) (by omega) (by omega) ?_
    refine v_aload0 X dL_law_463 rfl ?_
    refine v_iload X dL_law_464 rfl ?_
    refine v_ico (v := 2) X dL_law_466 (by decide) ?_
    refine v_iadd X dL_law_467 ?_
    refine v_sld X hX hbl hz dL_law_468 (nI_add (5 * t) 2) (by omega) (by omega) ?_
    refine v_if_eq (tgt := 476) X dL_law_469 (by decide) (fun hc => absurd hc hzz) (fun hc => ?_)
    refine v_ico (v := 1) X dL_law_472 (by decide) ?_
    refine v_goto (tgt := 477) X dL_law_473 (by decide) ?_
    refine v_aload3 X dL_law_477 rfl ?_
    obtain ⟨PW, hW, hrest⟩ := co_turn l hst (z0 := z0) (D := D) hI hdd (xs (5 * t + 1)) (1) (Or.inr rfl)
    refine v_callSW (As := [.ref (ad 0), .int (xs (5 * t + 1)), .int (1), .ref (ad 61)]) X wm_L_99 wt_L_turn wz_L wc_L_turn ⟨by decide, by decide, (show (parseMethodDescriptor yL_turn.desc).map (fun d => d.parameters.length) = some 4 from by decide +kernel)⟩ dL_law_478 hW rfl (Nat.le_of_ble_eq_true rfl) ⟨(Nat.le_of_ble_eq_true rfl), (Nat.le_of_ble_eq_true rfl), by show cells + 1 ≤ 652942; omega, by show slots + 6 ≤ 7137278; omega⟩ ?_
    intro r n' ad' g1 hp
    obtain ⟨k, b2, g2, rm, mc, ms, er, en, ea, ⟨q1, q2, q3, q4, q5, q6⟩, ⟨e1, fs, he1, he2⟩, hM, hI2, hk0, hB2⟩ := hrest r n' ad' g1 hp
    rw [er, en, ea]
    refine v_istore5 X rfl (Nat.le_of_ble_eq_true rfl) dL_law_481 ?_
    refine v_aload2 X dL_law_483 rfl ?_
    refine v_aload0 X dL_law_484 rfl ?_
    refine v_iload X dL_law_485 rfl ?_
    refine v_ico (v := 1) X dL_law_487 (by decide) ?_
    refine v_iadd X dL_law_488 ?_
    refine v_sld X hX hbl hz dL_law_489 (nI_add (5 * t) 1) (by omega) (by omega) ?_
    refine v_aload0 X dL_law_490 rfl ?_
    refine v_iload X dL_law_491 rfl ?_
    refine v_ico (v := 2) X dL_law_493 (by decide) ?_
    refine v_iadd X dL_law_494 ?_
    refine v_sld X hX hbl hz dL_law_495 (nI_add (5 * t) 2) (by omega) (by omega) ?_
    refine v_if_eq (tgt := 503) X dL_law_496 (by decide) (fun hc => absurd hc hzz) (fun hc => ?_)
    refine v_ico (v := 1) X dL_law_499 (by decide) ?_
    refine v_goto (tgt := 504) X dL_law_500 (by decide) ?_
    refine v_callV (As := [.int (xs (5 * t + 1)), .int (1)]) X wm_L_102 wi_X5_turn ws_X5_turn wz_X5 wc_X5_turn ⟨rfl, by decide, by decide, (show (parseMethodDescriptor yX5_turn.desc).map (fun d => d.parameters.length) = some 2 from by decide +kernel)⟩ rfl dL_law_504 hM (he2 ▸ he1) rfl (Nat.le_of_ble_eq_true rfl) ⟨q1, q2, by show rm.frames + 1 ≤ 11; omega, by show 8 + (4 + 11) + rm.locals ≤ 390; omega, by show cells + 1 + mc ≤ 652942; omega, by show slots + 6 + ms ≤ 7137278; omega⟩ ?_
    rintro r2 n2 ad2 g3 ⟨er2, en2, ea2, eg2⟩
    rw [er2, en2, ea2, eg2]
    refine v_istore6 X rfl (Nat.le_of_ble_eq_true rfl) dL_law_507 ?_
    refine v_aload2 X dL_law_509 rfl ?_
    obtain ⟨e3, fs3, he3, he4⟩ := hI2.at54
    refine cl_L_84 X dL_law_510 hI2.thrown he3 he4 (Nat.le_of_ble_eq_true rfl) ⟨rfl, rfl, (Nat.le_of_ble_eq_true rfl), (Nat.le_of_ble_eq_true rfl), by show cells + 1 + mc + 0 ≤ 652942; omega, by show slots + 6 + ms + 0 ≤ 7137278; omega⟩ ?_
    rintro r4 n4 ad4 g4 ⟨er4, en4, ea4, eg4⟩
    rw [er4, en4, ea4, eg4]
    refine v_iload X dL_law_513 rfl ?_
    refine v_icmp_eq (tgt := 520) X dL_law_515 (by decide) (fun _ => ?_) (fun hc => absurd rfl hc)
    have hend : vV p l e room_1 s m args below meth c 9 z0 D (cells + 1 + mc + 0) (slots + 6 + ms + 0) Q 62 ad g2 544 [some (.ref b), some (.ref (ad 0)), some (.ref (ad 54)), some (.ref (ad 61)), some (.int (nI (5 * t))), none, none, none, none] [] := by
      refine v_goto (tgt := 1427) X dL_law_544 (by decide) ?_
      exact (kk k g2 hI2).wd (by omega) (by omega)
    have hend' : vV p l e room_1 s m args below meth c 9 z0 D (cells + 1 + mc + 0) (slots + 6 + ms + 0) Q 62 ad g2 544 [some (.ref b), some (.ref (ad 0)), some (.ref (ad 54)), some (.ref (ad 61)), some (.int (nI (5 * t))), some (.int k), some (.int b2), none, none] [] := vV.le (A := [some (.ref b), some (.ref (ad 0)), some (.ref (ad 54)), some (.ref (ad 61)), some (.int (nI (5 * t))), none, none, none, none]) ⟨rfl, rfl, rfl, rfl, rfl, trivial⟩ hend
    refine v_iload X dL_law_520 rfl ?_
    refine v_if_ne (tgt := 544) X dL_law_522 (by decide) (fun _ => hend') (fun hk => ?_)
    obtain ⟨f, hf, hf2⟩ := hk0 hk
    refine v_aload3 X dL_law_525 rfl ?_
    refine v_ico (v := 0) X dL_law_526 (by decide) ?_
    refine v_lald (j := 0) X dL_law_527 hf rfl (by decide) (by decide) ?_
    refine v_iload X dL_law_528 rfl ?_
    refine v_if_eq (tgt := 537) X dL_law_530 (by decide) (fun hc => ?_) (fun hc => ?_)
    · refine v_lco (v := 0) X dL_law_537 (by decide) ?_
      refine v_lcmpE X (by rw [hf2, hc]; decide) dL_law_538 ?_
      refine v_if_eq (tgt := 544) X dL_law_539 (by decide) (fun _ => hend') (fun hc => absurd rfl hc)
    · have hb1 := (hB2 rfl).resolve_left hc
      refine v_lco (v := 1) X dL_law_533 (by decide) ?_
      refine v_goto (tgt := 538) X dL_law_534 (by decide) ?_
      refine v_lcmpE X (by rw [hf2, hb1]; decide) dL_law_538 ?_
      refine v_if_eq (tgt := 544) X dL_law_539 (by decide) (fun _ => hend') (fun hc => absurd rfl hc)
set_option maxRecDepth 100000 in
set_option maxHeartbeats 4000000 in
theorem lc_clean (l : Launch) (hst : l.stackTraces = false) {p : Program} {e : Env} {s : State} {m : MethodId} {args : Array Value} {below : List Frame} {meth : Method} {c : Code} {cells slots : Nat} {Q : State → Prop} {z0 b Ls t d : Nat} {xs : Nat → Int32} {D : va_G} {cy : Nat → ClassId} {ad : Nat → Nat} {th : Int32} {g : Nat → va_E} (X : vCx p s m args c cL_law RL 9 z0 D cy) (hX : va_X b Ls xs s s.heap) (hbl : b < s.heap.size) (hz : ¬ z0 ≤ b) (ht : 5 * t + 5 ≤ Ls) (hLs : Ls ≤ 2560) (hI : Inv cy ad d th g) (hdd : d ≤ 1000000) (hc : cells + 96 ≤ 652942) (hs : slots + 635 ≤ 7137278) (kk : ∀ th' g', Inv cy ad (d + 100) th' g' → vV p l e room_1 s m args below meth c 9 z0 D (cells + 96) (slots + 635) Q 62 ad g' 1427 [some (.ref b), some (.ref (ad 0)), some (.ref (ad 54)), some (.ref (ad 61)), some (.int (nI (5 * t))), none, none, none, none] []) : vV p l e room_1 s m args below meth c 9 z0 D cells slots Q 62 ad g 547 [some (.ref b), some (.ref (ad 0)), some (.ref (ad 54)), some (.ref (ad 61)), some (.int (nI (5 * t))), none, none, none, none] [] := by
  refine v_aload1 X dL_law_547 rfl ?_
  refine v_aload0 X dL_law_548 rfl ?_
  refine v_iload X dL_law_549 rfl ?_
  refine v_ico (v := 1) X dL_law_551 (by decide) ?_
  refine v_iadd X dL_law_552 ?_
  refine v_sld X hX hbl hz dL_law_553 (nI_add (5 * t) 1) (by omega) (by omega) ?_
  refine v_aload3 X dL_law_554 rfl ?_
  obtain ⟨PW, hW, hrest⟩ := co_clean l hst (z0 := z0) (D := D) hI hdd (xs (5 * t + 1))
  refine v_callSW (As := [.ref (ad 0), .int (xs (5 * t + 1)), .ref (ad 61)]) X wm_L_103 wt_L_clean wz_L wc_L_clean ⟨by decide, by decide, (show (parseMethodDescriptor yL_clean.desc).map (fun d => d.parameters.length) = some 3 from by decide +kernel)⟩ dL_law_555 hW rfl (Nat.le_of_ble_eq_true rfl) ⟨(Nat.le_of_ble_eq_true rfl), (Nat.le_of_ble_eq_true rfl), by show cells + 1 ≤ 652942; omega, by show slots + 6 ≤ 7137278; omega⟩ ?_
  intro r n' ad' g1 hp
  obtain ⟨k, b2, g2, rm, mc, ms, er, en, ea, ⟨q1, q2, q3, q4, q5, q6⟩, ⟨e1, fs, he1, he2⟩, hM, hI2, hk0, hB2⟩ := hrest r n' ad' g1 hp
  rw [er, en, ea]
  refine v_istore5 X rfl (Nat.le_of_ble_eq_true rfl) dL_law_558 ?_
  refine v_aload2 X dL_law_560 rfl ?_
  refine v_aload0 X dL_law_561 rfl ?_
  refine v_iload X dL_law_562 rfl ?_
  refine v_ico (v := 1) X dL_law_564 (by decide) ?_
  refine v_iadd X dL_law_565 ?_
  refine v_sld X hX hbl hz dL_law_566 (nI_add (5 * t) 1) (by omega) (by omega) ?_
  refine v_callV (As := [.int (xs (5 * t + 1))]) X wm_L_106 wi_X5_clean ws_X5_clean wz_X5 wc_X5_clean ⟨rfl, by decide, by decide, (show (parseMethodDescriptor yX5_clean.desc).map (fun d => d.parameters.length) = some 1 from by decide +kernel)⟩ rfl dL_law_567 hM (he2 ▸ he1) rfl (Nat.le_of_ble_eq_true rfl) ⟨q1, q2, by show rm.frames + 1 ≤ 11; omega, by show 8 + (3 + 11) + rm.locals ≤ 390; omega, by show cells + 1 + mc ≤ 652942; omega, by show slots + 6 + ms ≤ 7137278; omega⟩ ?_
  rintro r2 n2 ad2 g3 ⟨er2, en2, ea2, eg2⟩
  rw [er2, en2, ea2, eg2]
  refine v_istore6 X rfl (Nat.le_of_ble_eq_true rfl) dL_law_570 ?_
  refine v_aload2 X dL_law_572 rfl ?_
  obtain ⟨e3, fs3, he3, he4⟩ := hI2.at54
  refine cl_L_84 X dL_law_573 hI2.thrown he3 he4 (Nat.le_of_ble_eq_true rfl) ⟨rfl, rfl, (Nat.le_of_ble_eq_true rfl), (Nat.le_of_ble_eq_true rfl), by show cells + 1 + mc + 0 ≤ 652942; omega, by show slots + 6 + ms + 0 ≤ 7137278; omega⟩ ?_
  rintro r4 n4 ad4 g4 ⟨er4, en4, ea4, eg4⟩
  rw [er4, en4, ea4, eg4]
  refine v_iload X dL_law_576 rfl ?_
  refine v_icmp_eq (tgt := 583) X dL_law_578 (by decide) (fun _ => ?_) (fun hc => absurd rfl hc)
  have hend : vV p l e room_1 s m args below meth c 9 z0 D (cells + 1 + mc + 0) (slots + 6 + ms + 0) Q 62 ad g2 600 [some (.ref b), some (.ref (ad 0)), some (.ref (ad 54)), some (.ref (ad 61)), some (.int (nI (5 * t))), none, none, none, none] [] := by
    refine v_goto (tgt := 1427) X dL_law_600 (by decide) ?_
    exact (kk k g2 hI2).wd (by omega) (by omega)
  have hend' : vV p l e room_1 s m args below meth c 9 z0 D (cells + 1 + mc + 0) (slots + 6 + ms + 0) Q 62 ad g2 600 [some (.ref b), some (.ref (ad 0)), some (.ref (ad 54)), some (.ref (ad 61)), some (.int (nI (5 * t))), some (.int k), some (.int b2), none, none] [] := vV.le (A := [some (.ref b), some (.ref (ad 0)), some (.ref (ad 54)), some (.ref (ad 61)), some (.int (nI (5 * t))), none, none, none, none]) ⟨rfl, rfl, rfl, rfl, rfl, trivial⟩ hend
  refine v_iload X dL_law_583 rfl ?_
  refine v_if_ne (tgt := 600) X dL_law_585 (by decide) (fun _ => hend') (fun hk => ?_)
  obtain ⟨f, hf, hf2⟩ := hk0 hk
  refine v_aload3 X dL_law_588 rfl ?_
  refine v_ico (v := 0) X dL_law_589 (by decide) ?_
  refine v_lald (j := 0) X dL_law_590 hf rfl (by decide) (by decide) ?_
  refine v_iload X dL_law_591 rfl ?_
  refine v_i2l X dL_law_593 ?_
  refine v_lcmpE X hf2 dL_law_594 ?_
  refine v_if_eq (tgt := 600) X dL_law_595 (by decide) (fun _ => ?_) (fun hc => absurd rfl hc)
  exact hend'
set_option maxRecDepth 100000 in
set_option maxHeartbeats 4000000 in
theorem lc_cart (l : Launch) (hst : l.stackTraces = false) {p : Program} {e : Env} {s : State} {m : MethodId} {args : Array Value} {below : List Frame} {meth : Method} {c : Code} {cells slots : Nat} {Q : State → Prop} {z0 b Ls t d : Nat} {xs : Nat → Int32} {D : va_G} {cy : Nat → ClassId} {ad : Nat → Nat} {th : Int32} {g : Nat → va_E} (X : vCx p s m args c cL_law RL 9 z0 D cy) (hX : va_X b Ls xs s s.heap) (hbl : b < s.heap.size) (hz : ¬ z0 ≤ b) (ht : 5 * t + 5 ≤ Ls) (hLs : Ls ≤ 2560) (hI : Inv cy ad d th g) (hdd : d ≤ 1000000) (hc : cells + 96 ≤ 652942) (hs : slots + 635 ≤ 7137278) (kk : ∀ th' g', Inv cy ad (d + 100) th' g' → vV p l e room_1 s m args below meth c 9 z0 D (cells + 96) (slots + 635) Q 62 ad g' 1427 [some (.ref b), some (.ref (ad 0)), some (.ref (ad 54)), some (.ref (ad 61)), some (.int (nI (5 * t))), none, none, none, none] []) : vV p l e room_1 s m args below meth c 9 z0 D cells slots Q 62 ad g 603 [some (.ref b), some (.ref (ad 0)), some (.ref (ad 54)), some (.ref (ad 61)), some (.int (nI (5 * t))), none, none, none, none] [] := by
  refine v_aload1 X dL_law_603 rfl ?_
  refine v_aload0 X dL_law_604 rfl ?_
  refine v_iload X dL_law_605 rfl ?_
  refine v_ico (v := 1) X dL_law_607 (by decide) ?_
  refine v_iadd X dL_law_608 ?_
  refine v_sld X hX hbl hz dL_law_609 (nI_add (5 * t) 1) (by omega) (by omega) ?_
  refine v_aload0 X dL_law_610 rfl ?_
  refine v_iload X dL_law_611 rfl ?_
  refine v_ico (v := 2) X dL_law_613 (by decide) ?_
  refine v_iadd X dL_law_614 ?_
  refine v_sld X hX hbl hz dL_law_615 (nI_add (5 * t) 2) (by omega) (by omega) ?_
  refine v_aload3 X dL_law_616 rfl ?_
  obtain ⟨PW, hW, hrest⟩ := co_cart l hst (z0 := z0) (D := D) hI hdd (xs (5 * t + 1)) (xs (5 * t + 2))
  refine v_callSW (As := [.ref (ad 0), .int (xs (5 * t + 1)), .int (xs (5 * t + 2)), .ref (ad 61)]) X wm_L_107 wt_L_cart wz_L wc_L_cart ⟨by decide, by decide, (show (parseMethodDescriptor yL_cart.desc).map (fun d => d.parameters.length) = some 4 from by decide +kernel)⟩ dL_law_617 hW rfl (Nat.le_of_ble_eq_true rfl) ⟨(Nat.le_of_ble_eq_true rfl), (Nat.le_of_ble_eq_true rfl), by show cells + 1 ≤ 652942; omega, by show slots + 6 ≤ 7137278; omega⟩ ?_
  intro r n' ad' g1 hp
  obtain ⟨k, b2, g2, rm, mc, ms, er, en, ea, ⟨q1, q2, q3, q4, q5, q6⟩, ⟨e1, fs, he1, he2⟩, hM, hI2, hk0, hB2⟩ := hrest r n' ad' g1 hp
  rw [er, en, ea]
  refine v_istore5 X rfl (Nat.le_of_ble_eq_true rfl) dL_law_620 ?_
  refine v_aload2 X dL_law_622 rfl ?_
  refine v_aload0 X dL_law_623 rfl ?_
  refine v_iload X dL_law_624 rfl ?_
  refine v_ico (v := 1) X dL_law_626 (by decide) ?_
  refine v_iadd X dL_law_627 ?_
  refine v_sld X hX hbl hz dL_law_628 (nI_add (5 * t) 1) (by omega) (by omega) ?_
  refine v_aload0 X dL_law_629 rfl ?_
  refine v_iload X dL_law_630 rfl ?_
  refine v_ico (v := 2) X dL_law_632 (by decide) ?_
  refine v_iadd X dL_law_633 ?_
  refine v_sld X hX hbl hz dL_law_634 (nI_add (5 * t) 2) (by omega) (by omega) ?_
  refine v_callV (As := [.int (xs (5 * t + 1)), .int (xs (5 * t + 2))]) X wm_L_109 wi_X5_cart ws_X5_cart wz_X5 wc_X5_cart ⟨rfl, by decide, by decide, (show (parseMethodDescriptor yX5_cart.desc).map (fun d => d.parameters.length) = some 2 from by decide +kernel)⟩ rfl dL_law_635 hM (he2 ▸ he1) rfl (Nat.le_of_ble_eq_true rfl) ⟨q1, q2, by show rm.frames + 1 ≤ 11; omega, by show 8 + (3 + 11) + rm.locals ≤ 390; omega, by show cells + 1 + mc ≤ 652942; omega, by show slots + 6 + ms ≤ 7137278; omega⟩ ?_
  rintro r2 n2 ad2 g3 ⟨er2, en2, ea2, eg2⟩
  rw [er2, en2, ea2, eg2]
  refine v_istore6 X rfl (Nat.le_of_ble_eq_true rfl) dL_law_638 ?_
  refine v_aload2 X dL_law_640 rfl ?_
  obtain ⟨e3, fs3, he3, he4⟩ := hI2.at54
  refine cl_L_84 X dL_law_641 hI2.thrown he3 he4 (Nat.le_of_ble_eq_true rfl) ⟨rfl, rfl, (Nat.le_of_ble_eq_true rfl), (Nat.le_of_ble_eq_true rfl), by show cells + 1 + mc + 0 ≤ 652942; omega, by show slots + 6 + ms + 0 ≤ 7137278; omega⟩ ?_
  rintro r4 n4 ad4 g4 ⟨er4, en4, ea4, eg4⟩
  rw [er4, en4, ea4, eg4]
  refine v_iload X dL_law_644 rfl ?_
  refine v_icmp_eq (tgt := 651) X dL_law_646 (by decide) (fun _ => ?_) (fun hc => absurd rfl hc)
  have hend : vV p l e room_1 s m args below meth c 9 z0 D (cells + 1 + mc + 0) (slots + 6 + ms + 0) Q 62 ad g2 668 [some (.ref b), some (.ref (ad 0)), some (.ref (ad 54)), some (.ref (ad 61)), some (.int (nI (5 * t))), none, none, none, none] [] := by
    refine v_goto (tgt := 1427) X dL_law_668 (by decide) ?_
    exact (kk k g2 hI2).wd (by omega) (by omega)
  have hend' : vV p l e room_1 s m args below meth c 9 z0 D (cells + 1 + mc + 0) (slots + 6 + ms + 0) Q 62 ad g2 668 [some (.ref b), some (.ref (ad 0)), some (.ref (ad 54)), some (.ref (ad 61)), some (.int (nI (5 * t))), some (.int k), some (.int b2), none, none] [] := vV.le (A := [some (.ref b), some (.ref (ad 0)), some (.ref (ad 54)), some (.ref (ad 61)), some (.int (nI (5 * t))), none, none, none, none]) ⟨rfl, rfl, rfl, rfl, rfl, trivial⟩ hend
  refine v_iload X dL_law_651 rfl ?_
  refine v_if_ne (tgt := 668) X dL_law_653 (by decide) (fun _ => hend') (fun hk => ?_)
  obtain ⟨f, hf, hf2⟩ := hk0 hk
  refine v_aload3 X dL_law_656 rfl ?_
  refine v_ico (v := 0) X dL_law_657 (by decide) ?_
  refine v_lald (j := 0) X dL_law_658 hf rfl (by decide) (by decide) ?_
  refine v_iload X dL_law_659 rfl ?_
  refine v_i2l X dL_law_661 ?_
  refine v_lcmpE X hf2 dL_law_662 ?_
  refine v_if_eq (tgt := 668) X dL_law_663 (by decide) (fun _ => ?_) (fun hc => absurd rfl hc)
  exact hend'
set_option maxRecDepth 100000 in
set_option maxHeartbeats 4000000 in
theorem lc_setPeople (l : Launch) (hst : l.stackTraces = false) {p : Program} {e : Env} {s : State} {m : MethodId} {args : Array Value} {below : List Frame} {meth : Method} {c : Code} {cells slots : Nat} {Q : State → Prop} {z0 b Ls t d : Nat} {xs : Nat → Int32} {D : va_G} {cy : Nat → ClassId} {ad : Nat → Nat} {th : Int32} {g : Nat → va_E} (X : vCx p s m args c cL_law RL 9 z0 D cy) (hX : va_X b Ls xs s s.heap) (hbl : b < s.heap.size) (hz : ¬ z0 ≤ b) (ht : 5 * t + 5 ≤ Ls) (hLs : Ls ≤ 2560) (hI : Inv cy ad d th g) (hdd : d ≤ 1000000) (hc : cells + 96 ≤ 652942) (hs : slots + 635 ≤ 7137278) (kk : ∀ th' g', Inv cy ad (d + 100) th' g' → vV p l e room_1 s m args below meth c 9 z0 D (cells + 96) (slots + 635) Q 62 ad g' 1427 [some (.ref b), some (.ref (ad 0)), some (.ref (ad 54)), some (.ref (ad 61)), some (.int (nI (5 * t))), none, none, none, none] []) : vV p l e room_1 s m args below meth c 9 z0 D cells slots Q 62 ad g 671 [some (.ref b), some (.ref (ad 0)), some (.ref (ad 54)), some (.ref (ad 61)), some (.int (nI (5 * t))), none, none, none, none] [] := by
  refine v_aload1 X dL_law_671 rfl ?_
  refine v_aload0 X dL_law_672 rfl ?_
  refine v_iload X dL_law_673 rfl ?_
  refine v_ico (v := 1) X dL_law_675 (by decide) ?_
  refine v_iadd X dL_law_676 ?_
  refine v_sld X hX hbl hz dL_law_677 (nI_add (5 * t) 1) (by omega) (by omega) ?_
  refine v_aload0 X dL_law_678 rfl ?_
  refine v_iload X dL_law_679 rfl ?_
  refine v_ico (v := 2) X dL_law_681 (by decide) ?_
  refine v_iadd X dL_law_682 ?_
  refine v_sld X hX hbl hz dL_law_683 (nI_add (5 * t) 2) (by omega) (by omega) ?_
  refine v_aload3 X dL_law_684 rfl ?_
  obtain ⟨PW, hW, hrest⟩ := co_setPeople l hst (z0 := z0) (D := D) hI hdd (xs (5 * t + 1)) (xs (5 * t + 2))
  refine v_callSW (As := [.ref (ad 0), .int (xs (5 * t + 1)), .int (xs (5 * t + 2)), .ref (ad 61)]) X wm_L_110 wt_L_setPeople wz_L wc_L_setPeople ⟨by decide, by decide, (show (parseMethodDescriptor yL_setPeople.desc).map (fun d => d.parameters.length) = some 4 from by decide +kernel)⟩ dL_law_685 hW rfl (Nat.le_of_ble_eq_true rfl) ⟨(Nat.le_of_ble_eq_true rfl), (Nat.le_of_ble_eq_true rfl), by show cells + 1 ≤ 652942; omega, by show slots + 6 ≤ 7137278; omega⟩ ?_
  intro r n' ad' g1 hp
  obtain ⟨k, b2, g2, rm, mc, ms, er, en, ea, ⟨q1, q2, q3, q4, q5, q6⟩, ⟨e1, fs, he1, he2⟩, hM, hI2, hk0, hB2⟩ := hrest r n' ad' g1 hp
  rw [er, en, ea]
  refine v_istore5 X rfl (Nat.le_of_ble_eq_true rfl) dL_law_688 ?_
  refine v_aload2 X dL_law_690 rfl ?_
  refine v_aload0 X dL_law_691 rfl ?_
  refine v_iload X dL_law_692 rfl ?_
  refine v_ico (v := 1) X dL_law_694 (by decide) ?_
  refine v_iadd X dL_law_695 ?_
  refine v_sld X hX hbl hz dL_law_696 (nI_add (5 * t) 1) (by omega) (by omega) ?_
  refine v_aload0 X dL_law_697 rfl ?_
  refine v_iload X dL_law_698 rfl ?_
  refine v_ico (v := 2) X dL_law_700 (by decide) ?_
  refine v_iadd X dL_law_701 ?_
  refine v_sld X hX hbl hz dL_law_702 (nI_add (5 * t) 2) (by omega) (by omega) ?_
  refine v_callV (As := [.int (xs (5 * t + 1)), .int (xs (5 * t + 2))]) X wm_L_112 wi_X5_setPeople ws_X5_setPeople wz_X5 wc_X5_setPeople ⟨rfl, by decide, by decide, (show (parseMethodDescriptor yX5_setPeople.desc).map (fun d => d.parameters.length) = some 2 from by decide +kernel)⟩ rfl dL_law_703 hM (he2 ▸ he1) rfl (Nat.le_of_ble_eq_true rfl) ⟨q1, q2, by show rm.frames + 1 ≤ 11; omega, by show 8 + (4 + 11) + rm.locals ≤ 390; omega, by show cells + 1 + mc ≤ 652942; omega, by show slots + 6 + ms ≤ 7137278; omega⟩ ?_
  rintro r2 n2 ad2 g3 ⟨er2, en2, ea2, eg2⟩
  rw [er2, en2, ea2, eg2]
  refine v_istore6 X rfl (Nat.le_of_ble_eq_true rfl) dL_law_706 ?_
  refine v_aload2 X dL_law_708 rfl ?_
  obtain ⟨e3, fs3, he3, he4⟩ := hI2.at54
  refine cl_L_84 X dL_law_709 hI2.thrown he3 he4 (Nat.le_of_ble_eq_true rfl) ⟨rfl, rfl, (Nat.le_of_ble_eq_true rfl), (Nat.le_of_ble_eq_true rfl), by show cells + 1 + mc + 0 ≤ 652942; omega, by show slots + 6 + ms + 0 ≤ 7137278; omega⟩ ?_
  rintro r4 n4 ad4 g4 ⟨er4, en4, ea4, eg4⟩
  rw [er4, en4, ea4, eg4]
  refine v_iload X dL_law_712 rfl ?_
  refine v_icmp_eq (tgt := 719) X dL_law_714 (by decide) (fun _ => ?_) (fun hc => absurd rfl hc)
  have hend : vV p l e room_1 s m args below meth c 9 z0 D (cells + 1 + mc + 0) (slots + 6 + ms + 0) Q 62 ad g2 736 [some (.ref b), some (.ref (ad 0)), some (.ref (ad 54)), some (.ref (ad 61)), some (.int (nI (5 * t))), none, none, none, none] [] := by
    refine v_goto (tgt := 1427) X dL_law_736 (by decide) ?_
    exact (kk k g2 hI2).wd (by omega) (by omega)
  have hend' : vV p l e room_1 s m args below meth c 9 z0 D (cells + 1 + mc + 0) (slots + 6 + ms + 0) Q 62 ad g2 736 [some (.ref b), some (.ref (ad 0)), some (.ref (ad 54)), some (.ref (ad 61)), some (.int (nI (5 * t))), some (.int k), some (.int b2), none, none] [] := vV.le (A := [some (.ref b), some (.ref (ad 0)), some (.ref (ad 54)), some (.ref (ad 61)), some (.int (nI (5 * t))), none, none, none, none]) ⟨rfl, rfl, rfl, rfl, rfl, trivial⟩ hend
  refine v_iload X dL_law_719 rfl ?_
  refine v_if_ne (tgt := 736) X dL_law_721 (by decide) (fun _ => hend') (fun hk => ?_)
  obtain ⟨f, hf, hf2⟩ := hk0 hk
  refine v_aload3 X dL_law_724 rfl ?_
  refine v_ico (v := 0) X dL_law_725 (by decide) ?_
  refine v_lald (j := 0) X dL_law_726 hf rfl (by decide) (by decide) ?_
  refine v_iload X dL_law_727 rfl ?_
  refine v_i2l X dL_law_729 ?_
  refine v_lcmpE X hf2 dL_law_730 ?_
  refine v_if_eq (tgt := 736) X dL_law_731 (by decide) (fun _ => ?_) (fun hc => absurd rfl hc)
  exact hend'
set_option maxRecDepth 100000 in
set_option maxHeartbeats 4000000 in
theorem lc_house (l : Launch) (hst : l.stackTraces = false) {p : Program} {e : Env} {s : State} {m : MethodId} {args : Array Value} {below : List Frame} {meth : Method} {c : Code} {cells slots : Nat} {Q : State → Prop} {z0 b Ls t d : Nat} {xs : Nat → Int32} {D : va_G} {cy : Nat → ClassId} {ad : Nat → Nat} {th : Int32} {g : Nat → va_E} (X : vCx p s m args c cL_law RL 9 z0 D cy) (hX : va_X b Ls xs s s.heap) (hbl : b < s.heap.size) (hz : ¬ z0 ≤ b) (ht : 5 * t + 5 ≤ Ls) (hLs : Ls ≤ 2560) (hI : Inv cy ad d th g) (hdd : d ≤ 1000000) (hc : cells + 96 ≤ 652942) (hs : slots + 635 ≤ 7137278) (kk : ∀ th' g', Inv cy ad (d + 100) th' g' → vV p l e room_1 s m args below meth c 9 z0 D (cells + 96) (slots + 635) Q 62 ad g' 1427 [some (.ref b), some (.ref (ad 0)), some (.ref (ad 54)), some (.ref (ad 61)), some (.int (nI (5 * t))), none, none, none, none] []) : vV p l e room_1 s m args below meth c 9 z0 D cells slots Q 62 ad g 739 [some (.ref b), some (.ref (ad 0)), some (.ref (ad 54)), some (.ref (ad 61)), some (.int (nI (5 * t))), none, none, none, none] [] := by
  refine v_aload1 X dL_law_739 rfl ?_
  refine v_aload0 X dL_law_740 rfl ?_
  refine v_iload X dL_law_741 rfl ?_
  refine v_ico (v := 1) X dL_law_743 (by decide) ?_
  refine v_iadd X dL_law_744 ?_
  refine v_sld X hX hbl hz dL_law_745 (nI_add (5 * t) 1) (by omega) (by omega) ?_
  refine v_aload0 X dL_law_746 rfl ?_
  refine v_iload X dL_law_747 rfl ?_
  refine v_ico (v := 2) X dL_law_749 (by decide) ?_
  refine v_iadd X dL_law_750 ?_
  refine v_sld X hX hbl hz dL_law_751 (nI_add (5 * t) 2) (by omega) (by omega) ?_
  refine v_aload3 X dL_law_752 rfl ?_
  obtain ⟨PW, hW, hrest⟩ := co_house l hst (z0 := z0) (D := D) hI hdd (xs (5 * t + 1)) (xs (5 * t + 2))
  refine v_callSW (As := [.ref (ad 0), .int (xs (5 * t + 1)), .int (xs (5 * t + 2)), .ref (ad 61)]) X wm_L_113 wt_L_house wz_L wc_L_house ⟨by decide, by decide, (show (parseMethodDescriptor yL_house.desc).map (fun d => d.parameters.length) = some 4 from by decide +kernel)⟩ dL_law_753 hW rfl (Nat.le_of_ble_eq_true rfl) ⟨(Nat.le_of_ble_eq_true rfl), (Nat.le_of_ble_eq_true rfl), by show cells + 1 ≤ 652942; omega, by show slots + 6 ≤ 7137278; omega⟩ ?_
  intro r n' ad' g1 hp
  obtain ⟨k, b2, g2, rm, mc, ms, er, en, ea, ⟨q1, q2, q3, q4, q5, q6⟩, ⟨e1, fs, he1, he2⟩, hM, hI2, hk0, hB2⟩ := hrest r n' ad' g1 hp
  rw [er, en, ea]
  refine v_istore5 X rfl (Nat.le_of_ble_eq_true rfl) dL_law_756 ?_
  refine v_aload2 X dL_law_758 rfl ?_
  refine v_aload0 X dL_law_759 rfl ?_
  refine v_iload X dL_law_760 rfl ?_
  refine v_ico (v := 1) X dL_law_762 (by decide) ?_
  refine v_iadd X dL_law_763 ?_
  refine v_sld X hX hbl hz dL_law_764 (nI_add (5 * t) 1) (by omega) (by omega) ?_
  refine v_aload0 X dL_law_765 rfl ?_
  refine v_iload X dL_law_766 rfl ?_
  refine v_ico (v := 2) X dL_law_768 (by decide) ?_
  refine v_iadd X dL_law_769 ?_
  refine v_sld X hX hbl hz dL_law_770 (nI_add (5 * t) 2) (by omega) (by omega) ?_
  refine v_callV (As := [.int (xs (5 * t + 1)), .int (xs (5 * t + 2))]) X wm_L_115 wi_X5_house ws_X5_house wz_X5 wc_X5_house ⟨rfl, by decide, by decide, (show (parseMethodDescriptor yX5_house.desc).map (fun d => d.parameters.length) = some 2 from by decide +kernel)⟩ rfl dL_law_771 hM (he2 ▸ he1) rfl (Nat.le_of_ble_eq_true rfl) ⟨q1, q2, by show rm.frames + 1 ≤ 11; omega, by show 8 + (3 + 11) + rm.locals ≤ 390; omega, by show cells + 1 + mc ≤ 652942; omega, by show slots + 6 + ms ≤ 7137278; omega⟩ ?_
  rintro r2 n2 ad2 g3 ⟨er2, en2, ea2, eg2⟩
  rw [er2, en2, ea2, eg2]
  refine v_istore6 X rfl (Nat.le_of_ble_eq_true rfl) dL_law_774 ?_
  refine v_aload2 X dL_law_776 rfl ?_
  obtain ⟨e3, fs3, he3, he4⟩ := hI2.at54
  refine cl_L_84 X dL_law_777 hI2.thrown he3 he4 (Nat.le_of_ble_eq_true rfl) ⟨rfl, rfl, (Nat.le_of_ble_eq_true rfl), (Nat.le_of_ble_eq_true rfl), by show cells + 1 + mc + 0 ≤ 652942; omega, by show slots + 6 + ms + 0 ≤ 7137278; omega⟩ ?_
  rintro r4 n4 ad4 g4 ⟨er4, en4, ea4, eg4⟩
  rw [er4, en4, ea4, eg4]
  refine v_iload X dL_law_780 rfl ?_
  refine v_icmp_eq (tgt := 787) X dL_law_782 (by decide) (fun _ => ?_) (fun hc => absurd rfl hc)
  have hend : vV p l e room_1 s m args below meth c 9 z0 D (cells + 1 + mc + 0) (slots + 6 + ms + 0) Q 62 ad g2 804 [some (.ref b), some (.ref (ad 0)), some (.ref (ad 54)), some (.ref (ad 61)), some (.int (nI (5 * t))), none, none, none, none] [] := by
    refine v_goto (tgt := 1427) X dL_law_804 (by decide) ?_
    exact (kk k g2 hI2).wd (by omega) (by omega)
  have hend' : vV p l e room_1 s m args below meth c 9 z0 D (cells + 1 + mc + 0) (slots + 6 + ms + 0) Q 62 ad g2 804 [some (.ref b), some (.ref (ad 0)), some (.ref (ad 54)), some (.ref (ad 61)), some (.int (nI (5 * t))), some (.int k), some (.int b2), none, none] [] := vV.le (A := [some (.ref b), some (.ref (ad 0)), some (.ref (ad 54)), some (.ref (ad 61)), some (.int (nI (5 * t))), none, none, none, none]) ⟨rfl, rfl, rfl, rfl, rfl, trivial⟩ hend
  refine v_iload X dL_law_787 rfl ?_
  refine v_if_ne (tgt := 804) X dL_law_789 (by decide) (fun _ => hend') (fun hk => ?_)
  obtain ⟨f, hf, hf2⟩ := hk0 hk
  refine v_aload3 X dL_law_792 rfl ?_
  refine v_ico (v := 0) X dL_law_793 (by decide) ?_
  refine v_lald (j := 0) X dL_law_794 hf rfl (by decide) (by decide) ?_
  refine v_iload X dL_law_795 rfl ?_
  refine v_i2l X dL_law_797 ?_
  refine v_lcmpE X hf2 dL_law_798 ?_
  refine v_if_eq (tgt := 804) X dL_law_799 (by decide) (fun _ => ?_) (fun hc => absurd rfl hc)
  exact hend'
set_option maxRecDepth 100000 in
set_option maxHeartbeats 4000000 in
theorem lc_pipe (l : Launch) (hst : l.stackTraces = false) {p : Program} {e : Env} {s : State} {m : MethodId} {args : Array Value} {below : List Frame} {meth : Method} {c : Code} {cells slots : Nat} {Q : State → Prop} {z0 b Ls t d : Nat} {xs : Nat → Int32} {D : va_G} {cy : Nat → ClassId} {ad : Nat → Nat} {th : Int32} {g : Nat → va_E} (X : vCx p s m args c cL_law RL 9 z0 D cy) (hX : va_X b Ls xs s s.heap) (hbl : b < s.heap.size) (hz : ¬ z0 ≤ b) (ht : 5 * t + 5 ≤ Ls) (hLs : Ls ≤ 2560) (hI : Inv cy ad d th g) (hdd : d ≤ 1000000) (hc : cells + 96 ≤ 652942) (hs : slots + 635 ≤ 7137278) (kk : ∀ th' g', Inv cy ad (d + 100) th' g' → vV p l e room_1 s m args below meth c 9 z0 D (cells + 96) (slots + 635) Q 62 ad g' 1427 [some (.ref b), some (.ref (ad 0)), some (.ref (ad 54)), some (.ref (ad 61)), some (.int (nI (5 * t))), none, none, none, none] []) : vV p l e room_1 s m args below meth c 9 z0 D cells slots Q 62 ad g 807 [some (.ref b), some (.ref (ad 0)), some (.ref (ad 54)), some (.ref (ad 61)), some (.int (nI (5 * t))), none, none, none, none] [] := by
  refine v_aload1 X dL_law_807 rfl ?_
  refine v_aload0 X dL_law_808 rfl ?_
  refine v_iload X dL_law_809 rfl ?_
  refine v_ico (v := 1) X dL_law_811 (by decide) ?_
  refine v_iadd X dL_law_812 ?_
  refine v_sld X hX hbl hz dL_law_813 (nI_add (5 * t) 1) (by omega) (by omega) ?_
  refine v_aload0 X dL_law_814 rfl ?_
  refine v_iload X dL_law_815 rfl ?_
  refine v_ico (v := 2) X dL_law_817 (by decide) ?_
  refine v_iadd X dL_law_818 ?_
  refine v_sld X hX hbl hz dL_law_819 (nI_add (5 * t) 2) (by omega) (by omega) ?_
  refine v_aload3 X dL_law_820 rfl ?_
  obtain ⟨PW, hW, hrest⟩ := co_pipe l hst (z0 := z0) (D := D) hI hdd (xs (5 * t + 1)) (xs (5 * t + 2))
  refine v_callSW (As := [.ref (ad 0), .int (xs (5 * t + 1)), .int (xs (5 * t + 2)), .ref (ad 61)]) X wm_L_116 wt_L_pipe wz_L wc_L_pipe ⟨by decide, by decide, (show (parseMethodDescriptor yL_pipe.desc).map (fun d => d.parameters.length) = some 4 from by decide +kernel)⟩ dL_law_821 hW rfl (Nat.le_of_ble_eq_true rfl) ⟨(Nat.le_of_ble_eq_true rfl), (Nat.le_of_ble_eq_true rfl), by show cells + 1 ≤ 652942; omega, by show slots + 6 ≤ 7137278; omega⟩ ?_
  intro r n' ad' g1 hp
  obtain ⟨k, b2, g2, rm, mc, ms, er, en, ea, ⟨q1, q2, q3, q4, q5, q6⟩, ⟨e1, fs, he1, he2⟩, hM, hI2, hk0, hB2⟩ := hrest r n' ad' g1 hp
  rw [er, en, ea]
  refine v_istore5 X rfl (Nat.le_of_ble_eq_true rfl) dL_law_824 ?_
  refine v_aload2 X dL_law_826 rfl ?_
  refine v_aload0 X dL_law_827 rfl ?_
  refine v_iload X dL_law_828 rfl ?_
  refine v_ico (v := 1) X dL_law_830 (by decide) ?_
  refine v_iadd X dL_law_831 ?_
  refine v_sld X hX hbl hz dL_law_832 (nI_add (5 * t) 1) (by omega) (by omega) ?_
  refine v_aload0 X dL_law_833 rfl ?_
  refine v_iload X dL_law_834 rfl ?_
  refine v_ico (v := 2) X dL_law_836 (by decide) ?_
  refine v_iadd X dL_law_837 ?_
  refine v_sld X hX hbl hz dL_law_838 (nI_add (5 * t) 2) (by omega) (by omega) ?_
  refine v_callV (As := [.int (xs (5 * t + 1)), .int (xs (5 * t + 2))]) X wm_L_118 wi_X5_pipe ws_X5_pipe wz_X5 wc_X5_pipe ⟨rfl, by decide, by decide, (show (parseMethodDescriptor yX5_pipe.desc).map (fun d => d.parameters.length) = some 2 from by decide +kernel)⟩ rfl dL_law_839 hM (he2 ▸ he1) rfl (Nat.le_of_ble_eq_true rfl) ⟨q1, q2, by show rm.frames + 1 ≤ 11; omega, by show 8 + (3 + 11) + rm.locals ≤ 390; omega, by show cells + 1 + mc ≤ 652942; omega, by show slots + 6 + ms ≤ 7137278; omega⟩ ?_
  rintro r2 n2 ad2 g3 ⟨er2, en2, ea2, eg2⟩
  rw [er2, en2, ea2, eg2]
  refine v_istore6 X rfl (Nat.le_of_ble_eq_true rfl) dL_law_842 ?_
  refine v_aload2 X dL_law_844 rfl ?_
  obtain ⟨e3, fs3, he3, he4⟩ := hI2.at54
  refine cl_L_84 X dL_law_845 hI2.thrown he3 he4 (Nat.le_of_ble_eq_true rfl) ⟨rfl, rfl, (Nat.le_of_ble_eq_true rfl), (Nat.le_of_ble_eq_true rfl), by show cells + 1 + mc + 0 ≤ 652942; omega, by show slots + 6 + ms + 0 ≤ 7137278; omega⟩ ?_
  rintro r4 n4 ad4 g4 ⟨er4, en4, ea4, eg4⟩
  rw [er4, en4, ea4, eg4]
  refine v_iload X dL_law_848 rfl ?_
  refine v_icmp_eq (tgt := 855) X dL_law_850 (by decide) (fun _ => ?_) (fun hc => absurd rfl hc)
  have hend : vV p l e room_1 s m args below meth c 9 z0 D (cells + 1 + mc + 0) (slots + 6 + ms + 0) Q 62 ad g2 872 [some (.ref b), some (.ref (ad 0)), some (.ref (ad 54)), some (.ref (ad 61)), some (.int (nI (5 * t))), none, none, none, none] [] := by
    refine v_goto (tgt := 1427) X dL_law_872 (by decide) ?_
    exact (kk k g2 hI2).wd (by omega) (by omega)
  have hend' : vV p l e room_1 s m args below meth c 9 z0 D (cells + 1 + mc + 0) (slots + 6 + ms + 0) Q 62 ad g2 872 [some (.ref b), some (.ref (ad 0)), some (.ref (ad 54)), some (.ref (ad 61)), some (.int (nI (5 * t))), some (.int k), some (.int b2), none, none] [] := vV.le (A := [some (.ref b), some (.ref (ad 0)), some (.ref (ad 54)), some (.ref (ad 61)), some (.int (nI (5 * t))), none, none, none, none]) ⟨rfl, rfl, rfl, rfl, rfl, trivial⟩ hend
  refine v_iload X dL_law_855 rfl ?_
  refine v_if_ne (tgt := 872) X dL_law_857 (by decide) (fun _ => hend') (fun hk => ?_)
  obtain ⟨f, hf, hf2⟩ := hk0 hk
  refine v_aload3 X dL_law_860 rfl ?_
  refine v_ico (v := 0) X dL_law_861 (by decide) ?_
  refine v_lald (j := 0) X dL_law_862 hf rfl (by decide) (by decide) ?_
  refine v_iload X dL_law_863 rfl ?_
  refine v_i2l X dL_law_865 ?_
  refine v_lcmpE X hf2 dL_law_866 ?_
  refine v_if_eq (tgt := 872) X dL_law_867 (by decide) (fun _ => ?_) (fun hc => absurd rfl hc)
  exact hend'
set_option maxRecDepth 100000 in
set_option maxHeartbeats 4000000 in
theorem lc_owes (l : Launch) (hst : l.stackTraces = false) {p : Program} {e : Env} {s : State} {m : MethodId} {args : Array Value} {below : List Frame} {meth : Method} {c : Code} {cells slots : Nat} {Q : State → Prop} {z0 b Ls t d : Nat} {xs : Nat → Int32} {D : va_G} {cy : Nat → ClassId} {ad : Nat → Nat} {th : Int32} {g : Nat → va_E} (X : vCx p s m args c cL_law RL 9 z0 D cy) (hX : va_X b Ls xs s s.heap) (hbl : b < s.heap.size) (hz : ¬ z0 ≤ b) (ht : 5 * t + 5 ≤ Ls) (hLs : Ls ≤ 2560) (hI : Inv cy ad d th g) (hdd : d ≤ 1000000) (hc : cells + 96 ≤ 652942) (hs : slots + 635 ≤ 7137278) (kk : ∀ th' g', Inv cy ad (d + 100) th' g' → vV p l e room_1 s m args below meth c 9 z0 D (cells + 96) (slots + 635) Q 62 ad g' 1427 [some (.ref b), some (.ref (ad 0)), some (.ref (ad 54)), some (.ref (ad 61)), some (.int (nI (5 * t))), none, none, none, none] []) : vV p l e room_1 s m args below meth c 9 z0 D cells slots Q 62 ad g 875 [some (.ref b), some (.ref (ad 0)), some (.ref (ad 54)), some (.ref (ad 61)), some (.int (nI (5 * t))), none, none, none, none] [] := by
  refine v_aload1 X dL_law_875 rfl ?_
  refine v_aload0 X dL_law_876 rfl ?_
  refine v_iload X dL_law_877 rfl ?_
  refine v_ico (v := 1) X dL_law_879 (by decide) ?_
  refine v_iadd X dL_law_880 ?_
  refine v_sld X hX hbl hz dL_law_881 (nI_add (5 * t) 1) (by omega) (by omega) ?_
  refine v_aload0 X dL_law_882 rfl ?_
  refine v_iload X dL_law_883 rfl ?_
  refine v_ico (v := 2) X dL_law_885 (by decide) ?_
  refine v_iadd X dL_law_886 ?_
  refine v_sld X hX hbl hz dL_law_887 (nI_add (5 * t) 2) (by omega) (by omega) ?_
  refine v_aload3 X dL_law_888 rfl ?_
  obtain ⟨PW, hW, hrest⟩ := co_owes l hst (z0 := z0) (D := D) hI hdd (xs (5 * t + 1)) (xs (5 * t + 2))
  refine v_callSW (As := [.ref (ad 0), .int (xs (5 * t + 1)), .int (xs (5 * t + 2)), .ref (ad 61)]) X wm_L_119 wt_L_owes wz_L wc_L_owes ⟨by decide, by decide, (show (parseMethodDescriptor yL_owes.desc).map (fun d => d.parameters.length) = some 4 from by decide +kernel)⟩ dL_law_889 hW rfl (Nat.le_of_ble_eq_true rfl) ⟨(Nat.le_of_ble_eq_true rfl), (Nat.le_of_ble_eq_true rfl), by show cells + 1 ≤ 652942; omega, by show slots + 6 ≤ 7137278; omega⟩ ?_
  intro r n' ad' g1 hp
  obtain ⟨k, b2, g2, rm, mc, ms, er, en, ea, ⟨q1, q2, q3, q4, q5, q6⟩, ⟨e1, fs, he1, he2⟩, hM, hI2, hk0, hB2⟩ := hrest r n' ad' g1 hp
  rw [er, en, ea]
  refine v_istore5 X rfl (Nat.le_of_ble_eq_true rfl) dL_law_892 ?_
  refine v_aload2 X dL_law_894 rfl ?_
  refine v_aload0 X dL_law_895 rfl ?_
  refine v_iload X dL_law_896 rfl ?_
  refine v_ico (v := 1) X dL_law_898 (by decide) ?_
  refine v_iadd X dL_law_899 ?_
  refine v_sld X hX hbl hz dL_law_900 (nI_add (5 * t) 1) (by omega) (by omega) ?_
  refine v_aload0 X dL_law_901 rfl ?_
  refine v_iload X dL_law_902 rfl ?_
  refine v_ico (v := 2) X dL_law_904 (by decide) ?_
  refine v_iadd X dL_law_905 ?_
  refine v_sld X hX hbl hz dL_law_906 (nI_add (5 * t) 2) (by omega) (by omega) ?_
  refine v_callV (As := [.int (xs (5 * t + 1)), .int (xs (5 * t + 2))]) X wm_L_121 wi_X5_owes ws_X5_owes wz_X5 wc_X5_owes ⟨rfl, by decide, by decide, (show (parseMethodDescriptor yX5_owes.desc).map (fun d => d.parameters.length) = some 2 from by decide +kernel)⟩ rfl dL_law_907 hM (he2 ▸ he1) rfl (Nat.le_of_ble_eq_true rfl) ⟨q1, q2, by show rm.frames + 1 ≤ 11; omega, by show 8 + (3 + 11) + rm.locals ≤ 390; omega, by show cells + 1 + mc ≤ 652942; omega, by show slots + 6 + ms ≤ 7137278; omega⟩ ?_
  rintro r2 n2 ad2 g3 ⟨er2, en2, ea2, eg2⟩
  rw [er2, en2, ea2, eg2]
  refine v_istore6 X rfl (Nat.le_of_ble_eq_true rfl) dL_law_910 ?_
  refine v_aload2 X dL_law_912 rfl ?_
  obtain ⟨e3, fs3, he3, he4⟩ := hI2.at54
  refine cl_L_84 X dL_law_913 hI2.thrown he3 he4 (Nat.le_of_ble_eq_true rfl) ⟨rfl, rfl, (Nat.le_of_ble_eq_true rfl), (Nat.le_of_ble_eq_true rfl), by show cells + 1 + mc + 0 ≤ 652942; omega, by show slots + 6 + ms + 0 ≤ 7137278; omega⟩ ?_
  rintro r4 n4 ad4 g4 ⟨er4, en4, ea4, eg4⟩
  rw [er4, en4, ea4, eg4]
  refine v_iload X dL_law_916 rfl ?_
  refine v_icmp_eq (tgt := 923) X dL_law_918 (by decide) (fun _ => ?_) (fun hc => absurd rfl hc)
  have hend : vV p l e room_1 s m args below meth c 9 z0 D (cells + 1 + mc + 0) (slots + 6 + ms + 0) Q 62 ad g2 940 [some (.ref b), some (.ref (ad 0)), some (.ref (ad 54)), some (.ref (ad 61)), some (.int (nI (5 * t))), none, none, none, none] [] := by
    refine v_goto (tgt := 1427) X dL_law_940 (by decide) ?_
    exact (kk k g2 hI2).wd (by omega) (by omega)
  have hend' : vV p l e room_1 s m args below meth c 9 z0 D (cells + 1 + mc + 0) (slots + 6 + ms + 0) Q 62 ad g2 940 [some (.ref b), some (.ref (ad 0)), some (.ref (ad 54)), some (.ref (ad 61)), some (.int (nI (5 * t))), some (.int k), some (.int b2), none, none] [] := vV.le (A := [some (.ref b), some (.ref (ad 0)), some (.ref (ad 54)), some (.ref (ad 61)), some (.int (nI (5 * t))), none, none, none, none]) ⟨rfl, rfl, rfl, rfl, rfl, trivial⟩ hend
  refine v_iload X dL_law_923 rfl ?_
  refine v_if_ne (tgt := 940) X dL_law_925 (by decide) (fun _ => hend') (fun hk => ?_)
  obtain ⟨f, hf, hf2⟩ := hk0 hk
  refine v_aload3 X dL_law_928 rfl ?_
  refine v_ico (v := 0) X dL_law_929 (by decide) ?_
  refine v_lald (j := 0) X dL_law_930 hf rfl (by decide) (by decide) ?_
  refine v_iload X dL_law_931 rfl ?_
  refine v_i2l X dL_law_933 ?_
  refine v_lcmpE X hf2 dL_law_934 ?_
  refine v_if_eq (tgt := 940) X dL_law_935 (by decide) (fun _ => ?_) (fun hc => absurd rfl hc)
  exact hend'
set_option maxRecDepth 100000 in
set_option maxHeartbeats 4000000 in
theorem lc_pass (l : Launch) (hst : l.stackTraces = false) {p : Program} {e : Env} {s : State} {m : MethodId} {args : Array Value} {below : List Frame} {meth : Method} {c : Code} {cells slots : Nat} {Q : State → Prop} {z0 b Ls t d : Nat} {xs : Nat → Int32} {D : va_G} {cy : Nat → ClassId} {ad : Nat → Nat} {th : Int32} {g : Nat → va_E} (X : vCx p s m args c cL_law RL 9 z0 D cy) (hX : va_X b Ls xs s s.heap) (hbl : b < s.heap.size) (hz : ¬ z0 ≤ b) (ht : 5 * t + 5 ≤ Ls) (hLs : Ls ≤ 2560) (hI : Inv cy ad d th g) (hdd : d ≤ 1000000) (hc : cells + 96 ≤ 652942) (hs : slots + 635 ≤ 7137278) (kk : ∀ th' g', Inv cy ad (d + 100) th' g' → vV p l e room_1 s m args below meth c 9 z0 D (cells + 96) (slots + 635) Q 62 ad g' 1427 [some (.ref b), some (.ref (ad 0)), some (.ref (ad 54)), some (.ref (ad 61)), some (.int (nI (5 * t))), none, none, none, none] []) : vV p l e room_1 s m args below meth c 9 z0 D cells slots Q 62 ad g 943 [some (.ref b), some (.ref (ad 0)), some (.ref (ad 54)), some (.ref (ad 61)), some (.int (nI (5 * t))), none, none, none, none] [] := by
  refine v_aload1 X dL_law_943 rfl ?_
  refine v_aload0 X dL_law_944 rfl ?_
  refine v_iload X dL_law_945 rfl ?_
  refine v_ico (v := 1) X dL_law_947 (by decide) ?_
  refine v_iadd X dL_law_948 ?_
  refine v_sld X hX hbl hz dL_law_949 (nI_add (5 * t) 1) (by omega) (by omega) ?_
  refine v_aload3 X dL_law_950 rfl ?_
  obtain ⟨PW, hW, hrest⟩ := co_pass l hst (z0 := z0) (D := D) hI hdd (xs (5 * t + 1))
  refine v_callSW (As := [.ref (ad 0), .int (xs (5 * t + 1)), .ref (ad 61)]) X wm_L_122 wt_L_pass wz_L wc_L_pass ⟨by decide, by decide, (show (parseMethodDescriptor yL_pass.desc).map (fun d => d.parameters.length) = some 3 from by decide +kernel)⟩ dL_law_951 hW rfl (Nat.le_of_ble_eq_true rfl) ⟨(Nat.le_of_ble_eq_true rfl), (Nat.le_of_ble_eq_true rfl), by show cells + 1 ≤ 652942; omega, by show slots + 6 ≤ 7137278; omega⟩ ?_
  intro r n' ad' g1 hp
  obtain ⟨k, b2, g2, rm, mc, ms, er, en, ea, ⟨q1, q2, q3, q4, q5, q6⟩, ⟨e1, fs, he1, he2⟩, hM, hI2, hk0, hB2⟩ := hrest r n' ad' g1 hp
  rw [er, en, ea]
  refine v_istore5 X rfl (Nat.le_of_ble_eq_true rfl) dL_law_954 ?_
  refine v_aload2 X dL_law_956 rfl ?_
  refine v_aload0 X dL_law_957 rfl ?_
  refine v_iload X dL_law_958 rfl ?_
  refine v_ico (v := 1) X dL_law_960 (by decide) ?_
  refine v_iadd X dL_law_961 ?_
  refine v_sld X hX hbl hz dL_law_962 (nI_add (5 * t) 1) (by omega) (by omega) ?_
  refine v_callV (As := [.int (xs (5 * t + 1))]) X wm_L_124 wi_X5_pass ws_X5_pass wz_X5 wc_X5_pass ⟨rfl, by decide, by decide, (show (parseMethodDescriptor yX5_pass.desc).map (fun d => d.parameters.length) = some 1 from by decide +kernel)⟩ rfl dL_law_963 hM (he2 ▸ he1) rfl (Nat.le_of_ble_eq_true rfl) ⟨q1, q2, by show rm.frames + 1 ≤ 11; omega, by show 8 + (2 + 11) + rm.locals ≤ 390; omega, by show cells + 1 + mc ≤ 652942; omega, by show slots + 6 + ms ≤ 7137278; omega⟩ ?_
  rintro r2 n2 ad2 g3 ⟨er2, en2, ea2, eg2⟩
  rw [er2, en2, ea2, eg2]
  refine v_istore6 X rfl (Nat.le_of_ble_eq_true rfl) dL_law_966 ?_
  refine v_aload2 X dL_law_968 rfl ?_
  obtain ⟨e3, fs3, he3, he4⟩ := hI2.at54
  refine cl_L_84 X dL_law_969 hI2.thrown he3 he4 (Nat.le_of_ble_eq_true rfl) ⟨rfl, rfl, (Nat.le_of_ble_eq_true rfl), (Nat.le_of_ble_eq_true rfl), by show cells + 1 + mc + 0 ≤ 652942; omega, by show slots + 6 + ms + 0 ≤ 7137278; omega⟩ ?_
  rintro r4 n4 ad4 g4 ⟨er4, en4, ea4, eg4⟩
  rw [er4, en4, ea4, eg4]
  refine v_iload X dL_law_972 rfl ?_
  refine v_icmp_eq (tgt := 979) X dL_law_974 (by decide) (fun _ => ?_) (fun hc => absurd rfl hc)
  have hend : vV p l e room_1 s m args below meth c 9 z0 D (cells + 1 + mc + 0) (slots + 6 + ms + 0) Q 62 ad g2 996 [some (.ref b), some (.ref (ad 0)), some (.ref (ad 54)), some (.ref (ad 61)), some (.int (nI (5 * t))), none, none, none, none] [] := by
    refine v_goto (tgt := 1427) X dL_law_996 (by decide) ?_
    exact (kk k g2 hI2).wd (by omega) (by omega)
  have hend' : vV p l e room_1 s m args below meth c 9 z0 D (cells + 1 + mc + 0) (slots + 6 + ms + 0) Q 62 ad g2 996 [some (.ref b), some (.ref (ad 0)), some (.ref (ad 54)), some (.ref (ad 61)), some (.int (nI (5 * t))), some (.int k), some (.int b2), none, none] [] := vV.le (A := [some (.ref b), some (.ref (ad 0)), some (.ref (ad 54)), some (.ref (ad 61)), some (.int (nI (5 * t))), none, none, none, none]) ⟨rfl, rfl, rfl, rfl, rfl, trivial⟩ hend
  refine v_iload X dL_law_979 rfl ?_
  refine v_if_ne (tgt := 996) X dL_law_981 (by decide) (fun _ => hend') (fun hk => ?_)
  obtain ⟨f, hf, hf2⟩ := hk0 hk
  refine v_aload3 X dL_law_984 rfl ?_
  refine v_ico (v := 0) X dL_law_985 (by decide) ?_
  refine v_lald (j := 0) X dL_law_986 hf rfl (by decide) (by decide) ?_
  refine v_iload X dL_law_987 rfl ?_
  refine v_i2l X dL_law_989 ?_
  refine v_lcmpE X hf2 dL_law_990 ?_
  refine v_if_eq (tgt := 996) X dL_law_991 (by decide) (fun _ => ?_) (fun hc => absurd rfl hc)
  exact hend'
set_option maxRecDepth 100000 in
set_option maxHeartbeats 4000000 in
theorem lc_count (l : Launch) (hst : l.stackTraces = false) {p : Program} {e : Env} {s : State} {m : MethodId} {args : Array Value} {below : List Frame} {meth : Method} {c : Code} {cells slots : Nat} {Q : State → Prop} {z0 b Ls t d : Nat} {xs : Nat → Int32} {D : va_G} {cy : Nat → ClassId} {ad : Nat → Nat} {th : Int32} {g : Nat → va_E} (X : vCx p s m args c cL_law RL 9 z0 D cy) (hX : va_X b Ls xs s s.heap) (hbl : b < s.heap.size) (hz : ¬ z0 ≤ b) (ht : 5 * t + 5 ≤ Ls) (hLs : Ls ≤ 2560) (hI : Inv cy ad d th g) (hdd : d ≤ 1000000) (hc : cells + 96 ≤ 652942) (hs : slots + 635 ≤ 7137278) (kk : ∀ th' g', Inv cy ad (d + 100) th' g' → vV p l e room_1 s m args below meth c 9 z0 D (cells + 96) (slots + 635) Q 62 ad g' 1427 [some (.ref b), some (.ref (ad 0)), some (.ref (ad 54)), some (.ref (ad 61)), some (.int (nI (5 * t))), none, none, none, none] []) : vV p l e room_1 s m args below meth c 9 z0 D cells slots Q 62 ad g 999 [some (.ref b), some (.ref (ad 0)), some (.ref (ad 54)), some (.ref (ad 61)), some (.int (nI (5 * t))), none, none, none, none] [] := by
  refine v_aload1 X dL_law_999 rfl ?_
  refine v_aload0 X dL_law_1000 rfl ?_
  refine v_iload X dL_law_1001 rfl ?_
  refine v_ico (v := 1) X dL_law_1003 (by decide) ?_
  refine v_iadd X dL_law_1004 ?_
  refine v_sld X hX hbl hz dL_law_1005 (nI_add (5 * t) 1) (by omega) (by omega) ?_
  refine v_aload3 X dL_law_1006 rfl ?_
  obtain ⟨PW, hW, hrest⟩ := co_count l hst (z0 := z0) (D := D) hI hdd (xs (5 * t + 1))
  refine v_callSW (As := [.ref (ad 0), .int (xs (5 * t + 1)), .ref (ad 61)]) X wm_L_125 wt_L_count wz_L wc_L_count ⟨by decide, by decide, (show (parseMethodDescriptor yL_count.desc).map (fun d => d.parameters.length) = some 3 from by decide +kernel)⟩ dL_law_1007 hW rfl (Nat.le_of_ble_eq_true rfl) ⟨(Nat.le_of_ble_eq_true rfl), (Nat.le_of_ble_eq_true rfl), by show cells + 1 ≤ 652942; omega, by show slots + 6 ≤ 7137278; omega⟩ ?_
  intro r n' ad' g1 hp
  obtain ⟨k, b2, g2, rm, mc, ms, er, en, ea, ⟨q1, q2, q3, q4, q5, q6⟩, ⟨e1, fs, he1, he2⟩, hM, hI2, hk0, hB2⟩ := hrest r n' ad' g1 hp
  rw [er, en, ea]
  refine v_istore5 X rfl (Nat.le_of_ble_eq_true rfl) dL_law_1010 ?_
  refine v_aload2 X dL_law_1012 rfl ?_
  refine v_aload0 X dL_law_1013 rfl ?_
  refine v_iload X dL_law_1014 rfl ?_
  refine v_ico (v := 1) X dL_law_1016 (by decide) ?_
  refine v_iadd X dL_law_1017 ?_
  refine v_sld X hX hbl hz dL_law_1018 (nI_add (5 * t) 1) (by omega) (by omega) ?_
  refine v_callV (As := [.int (xs (5 * t + 1))]) X wm_L_127 wi_X5_count ws_X5_count wz_X5 wc_X5_count ⟨rfl, by decide, by decide, (show (parseMethodDescriptor yX5_count.desc).map (fun d => d.parameters.length) = some 1 from by decide +kernel)⟩ rfl dL_law_1019 hM (he2 ▸ he1) rfl (Nat.le_of_ble_eq_true rfl) ⟨q1, q2, by show rm.frames + 1 ≤ 11; omega, by show 8 + (2 + 11) + rm.locals ≤ 390; omega, by show cells + 1 + mc ≤ 652942; omega, by show slots + 6 + ms ≤ 7137278; omega⟩ ?_
  rintro r2 n2 ad2 g3 ⟨er2, en2, ea2, eg2⟩
  rw [er2, en2, ea2, eg2]
  refine v_istore6 X rfl (Nat.le_of_ble_eq_true rfl) dL_law_1022 ?_
  refine v_aload2 X dL_law_1024 rfl ?_
  obtain ⟨e3, fs3, he3, he4⟩ := hI2.at54
  refine cl_L_84 X dL_law_1025 hI2.thrown he3 he4 (Nat.le_of_ble_eq_true rfl) ⟨rfl, rfl, (Nat.le_of_ble_eq_true rfl), (Nat.le_of_ble_eq_true rfl), by show cells + 1 + mc + 0 ≤ 652942; omega, by show slots + 6 + ms + 0 ≤ 7137278; omega⟩ ?_
  rintro r4 n4 ad4 g4 ⟨er4, en4, ea4, eg4⟩
  rw [er4, en4, ea4, eg4]
  refine v_iload X dL_law_1028 rfl ?_
  refine v_icmp_eq (tgt := 1035) X dL_law_1030 (by decide) (fun _ => ?_) (fun hc => absurd rfl hc)
  have hend : vV p l e room_1 s m args below meth c 9 z0 D (cells + 1 + mc + 0) (slots + 6 + ms + 0) Q 62 ad g2 1052 [some (.ref b), some (.ref (ad 0)), some (.ref (ad 54)), some (.ref (ad 61)), some (.int (nI (5 * t))), none, none, none, none] [] := by
    refine v_goto (tgt := 1427) X dL_law_1052 (by decide) ?_
    exact (kk k g2 hI2).wd (by omega) (by omega)
  have hend' : vV p l e room_1 s m args below meth c 9 z0 D (cells + 1 + mc + 0) (slots + 6 + ms + 0) Q 62 ad g2 1052 [some (.ref b), some (.ref (ad 0)), some (.ref (ad 54)), some (.ref (ad 61)), some (.int (nI (5 * t))), some (.int k), some (.int b2), none, none] [] := vV.le (A := [some (.ref b), some (.ref (ad 0)), some (.ref (ad 54)), some (.ref (ad 61)), some (.int (nI (5 * t))), none, none, none, none]) ⟨rfl, rfl, rfl, rfl, rfl, trivial⟩ hend
  refine v_iload X dL_law_1035 rfl ?_
  refine v_if_ne (tgt := 1052) X dL_law_1037 (by decide) (fun _ => hend') (fun hk => ?_)
  obtain ⟨f, hf, hf2⟩ := hk0 hk
  refine v_aload3 X dL_law_1040 rfl ?_
  refine v_ico (v := 0) X dL_law_1041 (by decide) ?_
  refine v_lald (j := 0) X dL_law_1042 hf rfl (by decide) (by decide) ?_
  refine v_iload X dL_law_1043 rfl ?_
  refine v_i2l X dL_law_1045 ?_
  refine v_lcmpE X hf2 dL_law_1046 ?_
  refine v_if_eq (tgt := 1052) X dL_law_1047 (by decide) (fun _ => ?_) (fun hc => absurd rfl hc)
  exact hend'
set_option maxRecDepth 100000 in
set_option maxHeartbeats 4000000 in
theorem lc_foresee (l : Launch) (hst : l.stackTraces = false) {p : Program} {e : Env} {s : State} {m : MethodId} {args : Array Value} {below : List Frame} {meth : Method} {c : Code} {cells slots : Nat} {Q : State → Prop} {z0 b Ls t d : Nat} {xs : Nat → Int32} {D : va_G} {cy : Nat → ClassId} {ad : Nat → Nat} {th : Int32} {g : Nat → va_E} (X : vCx p s m args c cL_law RL 9 z0 D cy) (hX : va_X b Ls xs s s.heap) (hbl : b < s.heap.size) (hz : ¬ z0 ≤ b) (ht : 5 * t + 5 ≤ Ls) (hLs : Ls ≤ 2560) (hI : Inv cy ad d th g) (hdd : d ≤ 1000000) (hc : cells + 96 ≤ 652942) (hs : slots + 635 ≤ 7137278) (kk : ∀ th' g', Inv cy ad (d + 100) th' g' → vV p l e room_1 s m args below meth c 9 z0 D (cells + 96) (slots + 635) Q 62 ad g' 1427 [some (.ref b), some (.ref (ad 0)), some (.ref (ad 54)), some (.ref (ad 61)), some (.int (nI (5 * t))), none, none, none, none] []) : vV p l e room_1 s m args below meth c 9 z0 D cells slots Q 62 ad g 1055 [some (.ref b), some (.ref (ad 0)), some (.ref (ad 54)), some (.ref (ad 61)), some (.int (nI (5 * t))), none, none, none, none] [] := by
  refine v_aload1 X dL_law_1055 rfl ?_
  refine v_aload0 X dL_law_1056 rfl ?_
  refine v_iload X dL_law_1057 rfl ?_
  refine v_ico (v := 1) X dL_law_1059 (by decide) ?_
  refine v_iadd X dL_law_1060 ?_
  refine v_sld X hX hbl hz dL_law_1061 (nI_add (5 * t) 1) (by omega) (by omega) ?_
  refine v_aload0 X dL_law_1062 rfl ?_
  refine v_iload X dL_law_1063 rfl ?_
  refine v_ico (v := 2) X dL_law_1065 (by decide) ?_
  refine v_iadd X dL_law_1066 ?_
  refine v_sld X hX hbl hz dL_law_1067 (nI_add (5 * t) 2) (by omega) (by omega) ?_
  refine v_aload3 X dL_law_1068 rfl ?_
  obtain ⟨PW, hW, hrest⟩ := co_foresee l hst (z0 := z0) (D := D) hI hdd (xs (5 * t + 1)) (xs (5 * t + 2))
  refine v_callSW (As := [.ref (ad 0), .int (xs (5 * t + 1)), .int (xs (5 * t + 2)), .ref (ad 61)]) X wm_L_128 wt_L_foresee wz_L wc_L_foresee ⟨by decide, by decide, (show (parseMethodDescriptor yL_foresee.desc).map (fun d => d.parameters.length) = some 4 from by decide +kernel)⟩ dL_law_1069 hW rfl (Nat.le_of_ble_eq_true rfl) ⟨(Nat.le_of_ble_eq_true rfl), (Nat.le_of_ble_eq_true rfl), by show cells + 1 ≤ 652942; omega, by show slots + 6 ≤ 7137278; omega⟩ ?_
  intro r n' ad' g1 hp
  obtain ⟨k, b2, g2, rm, mc, ms, er, en, ea, ⟨q1, q2, q3, q4, q5, q6⟩, ⟨e1, fs, he1, he2⟩, hM, hI2, hk0, hB2⟩ := hrest r n' ad' g1 hp
  rw [er, en, ea]
  refine v_istore5 X rfl (Nat.le_of_ble_eq_true rfl) dL_law_1072 ?_
  refine v_aload2 X dL_law_1074 rfl ?_
  refine v_aload0 X dL_law_1075 rfl ?_
  refine v_iload X dL_law_1076 rfl ?_
  refine v_ico (v := 1) X dL_law_1078 (by decide) ?_
  refine v_iadd X dL_law_1079 ?_
  refine v_sld X hX hbl hz dL_law_1080 (nI_add (5 * t) 1) (by omega) (by omega) ?_
  refine v_aload0 X dL_law_1081 rfl ?_
  refine v_iload X dL_law_1082 rfl ?_
  refine v_ico (v := 2) X dL_law_1084 (by decide) ?_
  refine v_iadd X dL_law_1085 ?_
  refine v_sld X hX hbl hz dL_law_1086 (nI_add (5 * t) 2) (by omega) (by omega) ?_
  refine v_callV (As := [.int (xs (5 * t + 1)), .int (xs (5 * t + 2))]) X wm_L_130 wi_X5_foresee ws_X5_foresee wz_X5 wc_X5_foresee ⟨rfl, by decide, by decide, (show (parseMethodDescriptor yX5_foresee.desc).map (fun d => d.parameters.length) = some 2 from by decide +kernel)⟩ rfl dL_law_1087 hM (he2 ▸ he1) rfl (Nat.le_of_ble_eq_true rfl) ⟨q1, q2, by show rm.frames + 1 ≤ 11; omega, by show 8 + (7 + 11) + rm.locals ≤ 390; omega, by show cells + 1 + mc ≤ 652942; omega, by show slots + 6 + ms ≤ 7137278; omega⟩ ?_
  rintro r2 n2 ad2 g3 ⟨er2, en2, ea2, eg2⟩
  rw [er2, en2, ea2, eg2]
  refine v_istore6 X rfl (Nat.le_of_ble_eq_true rfl) dL_law_1090 ?_
  refine v_aload2 X dL_law_1092 rfl ?_
  obtain ⟨e3, fs3, he3, he4⟩ := hI2.at54
  refine cl_L_84 X dL_law_1093 hI2.thrown he3 he4 (Nat.le_of_ble_eq_true rfl) ⟨rfl, rfl, (Nat.le_of_ble_eq_true rfl), (Nat.le_of_ble_eq_true rfl), by show cells + 1 + mc + 0 ≤ 652942; omega, by show slots + 6 + ms + 0 ≤ 7137278; omega⟩ ?_
  rintro r4 n4 ad4 g4 ⟨er4, en4, ea4, eg4⟩
  rw [er4, en4, ea4, eg4]
  refine v_iload X dL_law_1096 rfl ?_
  refine v_icmp_eq (tgt := 1103) X dL_law_1098 (by decide) (fun _ => ?_) (fun hc => absurd rfl hc)
  have hend : vV p l e room_1 s m args below meth c 9 z0 D (cells + 1 + mc + 0) (slots + 6 + ms + 0) Q 62 ad g2 1120 [some (.ref b), some (.ref (ad 0)), some (.ref (ad 54)), some (.ref (ad 61)), some (.int (nI (5 * t))), none, none, none, none] [] := by
    refine v_goto (tgt := 1427) X dL_law_1120 (by decide) ?_
    exact (kk k g2 hI2).wd (by omega) (by omega)
  have hend' : vV p l e room_1 s m args below meth c 9 z0 D (cells + 1 + mc + 0) (slots + 6 + ms + 0) Q 62 ad g2 1120 [some (.ref b), some (.ref (ad 0)), some (.ref (ad 54)), some (.ref (ad 61)), some (.int (nI (5 * t))), some (.int k), some (.int b2), none, none] [] := vV.le (A := [some (.ref b), some (.ref (ad 0)), some (.ref (ad 54)), some (.ref (ad 61)), some (.int (nI (5 * t))), none, none, none, none]) ⟨rfl, rfl, rfl, rfl, rfl, trivial⟩ hend
  refine v_iload X dL_law_1103 rfl ?_
  refine v_if_ne (tgt := 1120) X dL_law_1105 (by decide) (fun _ => hend') (fun hk => ?_)
  obtain ⟨f, hf, hf2⟩ := hk0 hk
  refine v_aload3 X dL_law_1108 rfl ?_
  refine v_ico (v := 0) X dL_law_1109 (by decide) ?_
  refine v_lald (j := 0) X dL_law_1110 hf rfl (by decide) (by decide) ?_
  refine v_iload X dL_law_1111 rfl ?_
  refine v_i2l X dL_law_1113 ?_
  refine v_lcmpE X hf2 dL_law_1114 ?_
  refine v_if_eq (tgt := 1120) X dL_law_1115 (by decide) (fun _ => ?_) (fun hc => absurd rfl hc)
  exact hend'
set_option maxRecDepth 100000 in
set_option maxHeartbeats 4000000 in
theorem lc_lasts (l : Launch) (hst : l.stackTraces = false) {p : Program} {e : Env} {s : State} {m : MethodId} {args : Array Value} {below : List Frame} {meth : Method} {c : Code} {cells slots : Nat} {Q : State → Prop} {z0 b Ls t d : Nat} {xs : Nat → Int32} {D : va_G} {cy : Nat → ClassId} {ad : Nat → Nat} {th : Int32} {g : Nat → va_E} (X : vCx p s m args c cL_law RL 9 z0 D cy) (hX : va_X b Ls xs s s.heap) (hbl : b < s.heap.size) (hz : ¬ z0 ≤ b) (ht : 5 * t + 5 ≤ Ls) (hLs : Ls ≤ 2560) (hI : Inv cy ad d th g) (hdd : d ≤ 1000000) (hc : cells + 96 ≤ 652942) (hs : slots + 635 ≤ 7137278) (kk : ∀ th' g', Inv cy ad (d + 100) th' g' → vV p l e room_1 s m args below meth c 9 z0 D (cells + 96) (slots + 635) Q 62 ad g' 1427 [some (.ref b), some (.ref (ad 0)), some (.ref (ad 54)), some (.ref (ad 61)), some (.int (nI (5 * t))), none, none, none, none] []) : vV p l e room_1 s m args below meth c 9 z0 D cells slots Q 62 ad g 1123 [some (.ref b), some (.ref (ad 0)), some (.ref (ad 54)), some (.ref (ad 61)), some (.int (nI (5 * t))), none, none, none, none] [] := by
  refine v_aload1 X dL_law_1123 rfl ?_
  refine v_aload0 X dL_law_1124 rfl ?_
  refine v_iload X dL_law_1125 rfl ?_
  refine v_ico (v := 1) X dL_law_1127 (by decide) ?_
  refine v_iadd X dL_law_1128 ?_
  refine v_sld X hX hbl hz dL_law_1129 (nI_add (5 * t) 1) (by omega) (by omega) ?_
  refine v_aload3 X dL_law_1130 rfl ?_
  obtain ⟨PW, hW, hrest⟩ := co_lasts l hst (z0 := z0) (D := D) hI hdd (xs (5 * t + 1))
  refine v_callSW (As := [.ref (ad 0), .int (xs (5 * t + 1)), .ref (ad 61)]) X wm_L_131 wt_L_lasts wz_L wc_L_lasts ⟨by decide, by decide, (show (parseMethodDescriptor yL_lasts.desc).map (fun d => d.parameters.length) = some 3 from by decide +kernel)⟩ dL_law_1131 hW rfl (Nat.le_of_ble_eq_true rfl) ⟨(Nat.le_of_ble_eq_true rfl), (Nat.le_of_ble_eq_true rfl), by show cells + 1 ≤ 652942; omega, by show slots + 6 ≤ 7137278; omega⟩ ?_
  intro r n' ad' g1 hp
  obtain ⟨k, b2, g2, rm, mc, ms, er, en, ea, ⟨q1, q2, q3, q4, q5, q6⟩, ⟨e1, fs, he1, he2⟩, hM, hI2, hk0, hB2⟩ := hrest r n' ad' g1 hp
  rw [er, en, ea]
  refine v_istore5 X rfl (Nat.le_of_ble_eq_true rfl) dL_law_1134 ?_
  refine v_aload2 X dL_law_1136 rfl ?_
  refine v_aload0 X dL_law_1137 rfl ?_
  refine v_iload X dL_law_1138 rfl ?_
  refine v_ico (v := 1) X dL_law_1140 (by decide) ?_
  refine v_iadd X dL_law_1141 ?_
  refine v_sld X hX hbl hz dL_law_1142 (nI_add (5 * t) 1) (by omega) (by omega) ?_
  refine v_callV (As := [.int (xs (5 * t + 1))]) X wm_L_133 wi_X5_lasts ws_X5_lasts wz_X5 wc_X5_lasts ⟨rfl, by decide, by decide, (show (parseMethodDescriptor yX5_lasts.desc).map (fun d => d.parameters.length) = some 1 from by decide +kernel)⟩ rfl dL_law_1143 hM (he2 ▸ he1) rfl (Nat.le_of_ble_eq_true rfl) ⟨q1, q2, by show rm.frames + 1 ≤ 11; omega, by show 8 + (5 + 11) + rm.locals ≤ 390; omega, by show cells + 1 + mc ≤ 652942; omega, by show slots + 6 + ms ≤ 7137278; omega⟩ ?_
  rintro r2 n2 ad2 g3 ⟨er2, en2, ea2, eg2⟩
  rw [er2, en2, ea2, eg2]
  refine v_istore6 X rfl (Nat.le_of_ble_eq_true rfl) dL_law_1146 ?_
  refine v_aload2 X dL_law_1148 rfl ?_
  obtain ⟨e3, fs3, he3, he4⟩ := hI2.at54
  refine cl_L_84 X dL_law_1149 hI2.thrown he3 he4 (Nat.le_of_ble_eq_true rfl) ⟨rfl, rfl, (Nat.le_of_ble_eq_true rfl), (Nat.le_of_ble_eq_true rfl), by show cells + 1 + mc + 0 ≤ 652942; omega, by show slots + 6 + ms + 0 ≤ 7137278; omega⟩ ?_
  rintro r4 n4 ad4 g4 ⟨er4, en4, ea4, eg4⟩
  rw [er4, en4, ea4, eg4]
  refine v_iload X dL_law_1152 rfl ?_
  refine v_icmp_eq (tgt := 1159) X dL_law_1154 (by decide) (fun _ => ?_) (fun hc => absurd rfl hc)
  have hend : vV p l e room_1 s m args below meth c 9 z0 D (cells + 1 + mc + 0) (slots + 6 + ms + 0) Q 62 ad g2 1176 [some (.ref b), some (.ref (ad 0)), some (.ref (ad 54)), some (.ref (ad 61)), some (.int (nI (5 * t))), none, none, none, none] [] := by
    refine v_goto (tgt := 1427) X dL_law_1176 (by decide) ?_
    exact (kk k g2 hI2).wd (by omega) (by omega)
  have hend' : vV p l e room_1 s m args below meth c 9 z0 D (cells + 1 + mc + 0) (slots + 6 + ms + 0) Q 62 ad g2 1176 [some (.ref b), some (.ref (ad 0)), some (.ref (ad 54)), some (.ref (ad 61)), some (.int (nI (5 * t))), some (.int k), some (.int b2), none, none] [] := vV.le (A := [some (.ref b), some (.ref (ad 0)), some (.ref (ad 54)), some (.ref (ad 61)), some (.int (nI (5 * t))), none, none, none, none]) ⟨rfl, rfl, rfl, rfl, rfl, trivial⟩ hend
  refine v_iload X dL_law_1159 rfl ?_
  refine v_if_ne (tgt := 1176) X dL_law_1161 (by decide) (fun _ => hend') (fun hk => ?_)
  obtain ⟨f, hf, hf2⟩ := hk0 hk
  refine v_aload3 X dL_law_1164 rfl ?_
  refine v_ico (v := 0) X dL_law_1165 (by decide) ?_
  refine v_lald (j := 0) X dL_law_1166 hf rfl (by decide) (by decide) ?_
  refine v_iload X dL_law_1167 rfl ?_
  refine v_i2l X dL_law_1169 ?_
  refine v_lcmpE X hf2 dL_law_1170 ?_
  refine v_if_eq (tgt := 1176) X dL_law_1171 (by decide) (fun _ => ?_) (fun hc => absurd rfl hc)
  exact hend'
set_option maxRecDepth 100000 in
set_option maxHeartbeats 4000000 in
theorem lc_needs (l : Launch) (hst : l.stackTraces = false) {p : Program} {e : Env} {s : State} {m : MethodId} {args : Array Value} {below : List Frame} {meth : Method} {c : Code} {cells slots : Nat} {Q : State → Prop} {z0 b Ls t d : Nat} {xs : Nat → Int32} {D : va_G} {cy : Nat → ClassId} {ad : Nat → Nat} {th : Int32} {g : Nat → va_E} (X : vCx p s m args c cL_law RL 9 z0 D cy) (hX : va_X b Ls xs s s.heap) (hbl : b < s.heap.size) (hz : ¬ z0 ≤ b) (ht : 5 * t + 5 ≤ Ls) (hLs : Ls ≤ 2560) (hI : Inv cy ad d th g) (hdd : d ≤ 1000000) (hc : cells + 96 ≤ 652942) (hs : slots + 635 ≤ 7137278) (kk : ∀ th' g', Inv cy ad (d + 100) th' g' → vV p l e room_1 s m args below meth c 9 z0 D (cells + 96) (slots + 635) Q 62 ad g' 1427 [some (.ref b), some (.ref (ad 0)), some (.ref (ad 54)), some (.ref (ad 61)), some (.int (nI (5 * t))), none, none, none, none] []) : vV p l e room_1 s m args below meth c 9 z0 D cells slots Q 62 ad g 1179 [some (.ref b), some (.ref (ad 0)), some (.ref (ad 54)), some (.ref (ad 61)), some (.int (nI (5 * t))), none, none, none, none] [] := by
  refine v_aload1 X dL_law_1179 rfl ?_
  refine v_aload0 X dL_law_1180 rfl ?_
  refine v_iload X dL_law_1181 rfl ?_
  refine v_ico (v := 1) X dL_law_1183 (by decide) ?_
  refine v_iadd X dL_law_1184 ?_
  refine v_sld X hX hbl hz dL_law_1185 (nI_add (5 * t) 1) (by omega) (by omega) ?_
  refine v_aload0 X dL_law_1186 rfl ?_
  refine v_iload X dL_law_1187 rfl ?_
  refine v_ico (v := 2) X dL_law_1189 (by decide) ?_
  refine v_iadd X dL_law_1190 ?_
  refine v_sld X hX hbl hz dL_law_1191 (nI_add (5 * t) 2) (by omega) (by omega) ?_
  refine v_aload3 X dL_law_1192 rfl ?_
  obtain ⟨PW, hW, hrest⟩ := co_needs l hst (z0 := z0) (D := D) hI hdd (xs (5 * t + 1)) (xs (5 * t + 2))
  refine v_callSW (As := [.ref (ad 0), .int (xs (5 * t + 1)), .int (xs (5 * t + 2)), .ref (ad 61)]) X wm_L_134 wt_L_needs wz_L wc_L_needs ⟨by decide, by decide, (show (parseMethodDescriptor yL_needs.desc).map (fun d => d.parameters.length) = some 4 from by decide +kernel)⟩ dL_law_1193 hW rfl (Nat.le_of_ble_eq_true rfl) ⟨(Nat.le_of_ble_eq_true rfl), (Nat.le_of_ble_eq_true rfl), by show cells + 1 ≤ 652942; omega, by show slots + 6 ≤ 7137278; omega⟩ ?_
  intro r n' ad' g1 hp
  obtain ⟨k, b2, g2, rm, mc, ms, er, en, ea, ⟨q1, q2, q3, q4, q5, q6⟩, ⟨e1, fs, he1, he2⟩, hM, hI2, hk0, hB2⟩ := hrest r n' ad' g1 hp
  rw [er, en, ea]
  refine v_istore5 X rfl (Nat.le_of_ble_eq_true rfl) dL_law_1196 ?_
  refine v_aload2 X dL_law_1198 rfl ?_
  refine v_aload0 X dL_law_1199 rfl ?_
  refine v_iload X dL_law_1200 rfl ?_
  refine v_ico (v := 1) X dL_law_1202 (by decide) ?_
  refine v_iadd X dL_law_1203 ?_
  refine v_sld X hX hbl hz dL_law_1204 (nI_add (5 * t) 1) (by omega) (by omega) ?_
  refine v_aload0 X dL_law_1205 rfl ?_
  refine v_iload X dL_law_1206 rfl ?_
  refine v_ico (v := 2) X dL_law_1208 (by decide) ?_
  refine v_iadd X dL_law_1209 ?_
  refine v_sld X hX hbl hz dL_law_1210 (nI_add (5 * t) 2) (by omega) (by omega) ?_
  refine v_callV (As := [.int (xs (5 * t + 1)), .int (xs (5 * t + 2))]) X wm_L_136 wi_X5_needs ws_X5_needs wz_X5 wc_X5_needs ⟨rfl, by decide, by decide, (show (parseMethodDescriptor yX5_needs.desc).map (fun d => d.parameters.length) = some 2 from by decide +kernel)⟩ rfl dL_law_1211 hM (he2 ▸ he1) rfl (Nat.le_of_ble_eq_true rfl) ⟨q1, q2, by show rm.frames + 1 ≤ 11; omega, by show 8 + (7 + 11) + rm.locals ≤ 390; omega, by show cells + 1 + mc ≤ 652942; omega, by show slots + 6 + ms ≤ 7137278; omega⟩ ?_
  rintro r2 n2 ad2 g3 ⟨er2, en2, ea2, eg2⟩
  rw [er2, en2, ea2, eg2]
  refine v_istore6 X rfl (Nat.le_of_ble_eq_true rfl) dL_law_1214 ?_
  refine v_aload2 X dL_law_1216 rfl ?_
  obtain ⟨e3, fs3, he3, he4⟩ := hI2.at54
  refine cl_L_84 X dL_law_1217 hI2.thrown he3 he4 (Nat.le_of_ble_eq_true rfl) ⟨rfl, rfl, (Nat.le_of_ble_eq_true rfl), (Nat.le_of_ble_eq_true rfl), by show cells + 1 + mc + 0 ≤ 652942; omega, by show slots + 6 + ms + 0 ≤ 7137278; omega⟩ ?_
  rintro r4 n4 ad4 g4 ⟨er4, en4, ea4, eg4⟩
  rw [er4, en4, ea4, eg4]
  refine v_iload X dL_law_1220 rfl ?_
  refine v_icmp_eq (tgt := 1227) X dL_law_1222 (by decide) (fun _ => ?_) (fun hc => absurd rfl hc)
  have hend : vV p l e room_1 s m args below meth c 9 z0 D (cells + 1 + mc + 0) (slots + 6 + ms + 0) Q 62 ad g2 1244 [some (.ref b), some (.ref (ad 0)), some (.ref (ad 54)), some (.ref (ad 61)), some (.int (nI (5 * t))), none, none, none, none] [] := by
    refine v_goto (tgt := 1427) X dL_law_1244 (by decide) ?_
    exact (kk k g2 hI2).wd (by omega) (by omega)
  have hend' : vV p l e room_1 s m args below meth c 9 z0 D (cells + 1 + mc + 0) (slots + 6 + ms + 0) Q 62 ad g2 1244 [some (.ref b), some (.ref (ad 0)), some (.ref (ad 54)), some (.ref (ad 61)), some (.int (nI (5 * t))), some (.int k), some (.int b2), none, none] [] := vV.le (A := [some (.ref b), some (.ref (ad 0)), some (.ref (ad 54)), some (.ref (ad 61)), some (.int (nI (5 * t))), none, none, none, none]) ⟨rfl, rfl, rfl, rfl, rfl, trivial⟩ hend
  refine v_iload X dL_law_1227 rfl ?_
  refine v_if_ne (tgt := 1244) X dL_law_1229 (by decide) (fun _ => hend') (fun hk => ?_)
  obtain ⟨f, hf, hf2⟩ := hk0 hk
  refine v_aload3 X dL_law_1232 rfl ?_
  refine v_ico (v := 0) X dL_law_1233 (by decide) ?_
  refine v_lald (j := 0) X dL_law_1234 hf rfl (by decide) (by decide) ?_
  refine v_iload X dL_law_1235 rfl ?_
  refine v_i2l X dL_law_1237 ?_
  refine v_lcmpE X hf2 dL_law_1238 ?_
  refine v_if_eq (tgt := 1244) X dL_law_1239 (by decide) (fun _ => ?_) (fun hc => absurd rfl hc)
  exact hend'
set_option maxRecDepth 100000 in
set_option maxHeartbeats 4000000 in
theorem lc_dirty (l : Launch) (hst : l.stackTraces = false) {p : Program} {e : Env} {s : State} {m : MethodId} {args : Array Value} {below : List Frame} {meth : Method} {c : Code} {cells slots : Nat} {Q : State → Prop} {z0 b Ls t d : Nat} {xs : Nat → Int32} {D : va_G} {cy : Nat → ClassId} {ad : Nat → Nat} {th : Int32} {g : Nat → va_E} (X : vCx p s m args c cL_law RL 9 z0 D cy) (hX : va_X b Ls xs s s.heap) (hbl : b < s.heap.size) (hz : ¬ z0 ≤ b) (ht : 5 * t + 5 ≤ Ls) (hLs : Ls ≤ 2560) (hI : Inv cy ad d th g) (hdd : d ≤ 1000000) (hc : cells + 96 ≤ 652942) (hs : slots + 635 ≤ 7137278) (kk : ∀ th' g', Inv cy ad (d + 100) th' g' → vV p l e room_1 s m args below meth c 9 z0 D (cells + 96) (slots + 635) Q 62 ad g' 1427 [some (.ref b), some (.ref (ad 0)), some (.ref (ad 54)), some (.ref (ad 61)), some (.int (nI (5 * t))), none, none, none, none] []) : vV p l e room_1 s m args below meth c 9 z0 D cells slots Q 62 ad g 1247 [some (.ref b), some (.ref (ad 0)), some (.ref (ad 54)), some (.ref (ad 61)), some (.int (nI (5 * t))), none, none, none, none] [] := by
  refine v_aload1 X dL_law_1247 rfl ?_
  refine v_aload0 X dL_law_1248 rfl ?_
  refine v_iload X dL_law_1249 rfl ?_
  refine v_ico (v := 1) X dL_law_1251 (by decide) ?_
  refine v_iadd X dL_law_1252 ?_
  refine v_sld X hX hbl hz dL_law_1253 (nI_add (5 * t) 1) (by omega) (by omega) ?_
  refine v_aload3 X dL_law_1254 rfl ?_
  obtain ⟨PW, hW, hrest⟩ := co_dirty l hst (z0 := z0) (D := D) hI hdd (xs (5 * t + 1))
  refine v_callSW (As := [.ref (ad 0), .int (xs (5 * t + 1)), .ref (ad 61)]) X wm_L_137 wt_L_dirty wz_L wc_L_dirty ⟨by decide, by decide, (show (parseMethodDescriptor yL_dirty.desc).map (fun d => d.parameters.length) = some 3 from by decide +kernel)⟩ dL_law_1255 hW rfl (Nat.le_of_ble_eq_true rfl) ⟨(Nat.le_of_ble_eq_true rfl), (Nat.le_of_ble_eq_true rfl), by show cells + 1 ≤ 652942; omega, by show slots + 6 ≤ 7137278; omega⟩ ?_
  intro r n' ad' g1 hp
  obtain ⟨k, b2, g2, rm, mc, ms, er, en, ea, ⟨q1, q2, q3, q4, q5, q6⟩, ⟨e1, fs, he1, he2⟩, hM, hI2, hk0, hB2⟩ := hrest r n' ad' g1 hp
  rw [er, en, ea]
  refine v_istore5 X rfl (Nat.le_of_ble_eq_true rfl) dL_law_1258 ?_
  refine v_aload2 X dL_law_1260 rfl ?_
  refine v_aload0 X dL_law_1261 rfl ?_
  refine v_iload X dL_law_1262 rfl ?_
  refine v_ico (v := 1) X dL_law_1264 (by decide) ?_
  refine v_iadd X dL_law_1265 ?_
  refine v_sld X hX hbl hz dL_law_1266 (nI_add (5 * t) 1) (by omega) (by omega) ?_
  refine v_callV (As := [.int (xs (5 * t + 1))]) X wm_L_139 wi_X5_dirty ws_X5_dirty wz_X5 wc_X5_dirty ⟨rfl, by decide, by decide, (show (parseMethodDescriptor yX5_dirty.desc).map (fun d => d.parameters.length) = some 1 from by decide +kernel)⟩ rfl dL_law_1267 hM (he2 ▸ he1) rfl (Nat.le_of_ble_eq_true rfl) ⟨q1, q2, by show rm.frames + 1 ≤ 11; omega, by show 8 + (7 + 11) + rm.locals ≤ 390; omega, by show cells + 1 + mc ≤ 652942; omega, by show slots + 6 + ms ≤ 7137278; omega⟩ ?_
  rintro r2 n2 ad2 g3 ⟨er2, en2, ea2, eg2⟩
  rw [er2, en2, ea2, eg2]
  refine v_istore6 X rfl (Nat.le_of_ble_eq_true rfl) dL_law_1270 ?_
  refine v_aload2 X dL_law_1272 rfl ?_
  obtain ⟨e3, fs3, he3, he4⟩ := hI2.at54
  refine cl_L_84 X dL_law_1273 hI2.thrown he3 he4 (Nat.le_of_ble_eq_true rfl) ⟨rfl, rfl, (Nat.le_of_ble_eq_true rfl), (Nat.le_of_ble_eq_true rfl), by show cells + 1 + mc + 0 ≤ 652942; omega, by show slots + 6 + ms + 0 ≤ 7137278; omega⟩ ?_
  rintro r4 n4 ad4 g4 ⟨er4, en4, ea4, eg4⟩
  rw [er4, en4, ea4, eg4]
  refine v_iload X dL_law_1276 rfl ?_
  refine v_icmp_eq (tgt := 1283) X dL_law_1278 (by decide) (fun _ => ?_) (fun hc => absurd rfl hc)
  have hend : vV p l e room_1 s m args below meth c 9 z0 D (cells + 1 + mc + 0) (slots + 6 + ms + 0) Q 62 ad g2 1300 [some (.ref b), some (.ref (ad 0)), some (.ref (ad 54)), some (.ref (ad 61)), some (.int (nI (5 * t))), none, none, none, none] [] := by
    refine v_goto (tgt := 1427) X dL_law_1300 (by decide) ?_
    exact (kk k g2 hI2).wd (by omega) (by omega)
  have hend' : vV p l e room_1 s m args below meth c 9 z0 D (cells + 1 + mc + 0) (slots + 6 + ms + 0) Q 62 ad g2 1300 [some (.ref b), some (.ref (ad 0)), some (.ref (ad 54)), some (.ref (ad 61)), some (.int (nI (5 * t))), some (.int k), some (.int b2), none, none] [] := vV.le (A := [some (.ref b), some (.ref (ad 0)), some (.ref (ad 54)), some (.ref (ad 61)), some (.int (nI (5 * t))), none, none, none, none]) ⟨rfl, rfl, rfl, rfl, rfl, trivial⟩ hend
  refine v_iload X dL_law_1283 rfl ?_
  refine v_if_ne (tgt := 1300) X dL_law_1285 (by decide) (fun _ => hend') (fun hk => ?_)
  obtain ⟨f, hf, hf2⟩ := hk0 hk
  refine v_aload3 X dL_law_1288 rfl ?_
  refine v_ico (v := 0) X dL_law_1289 (by decide) ?_
  refine v_lald (j := 0) X dL_law_1290 hf rfl (by decide) (by decide) ?_
  refine v_iload X dL_law_1291 rfl ?_
  refine v_i2l X dL_law_1293 ?_
  refine v_lcmpE X hf2 dL_law_1294 ?_
  refine v_if_eq (tgt := 1300) X dL_law_1295 (by decide) (fun _ => ?_) (fun hc => absurd rfl hc)
  exact hend'
set_option maxRecDepth 100000 in
set_option maxHeartbeats 4000000 in
theorem lc_advise (l : Launch) (hst : l.stackTraces = false) {p : Program} {e : Env} {s : State} {m : MethodId} {args : Array Value} {below : List Frame} {meth : Method} {c : Code} {cells slots : Nat} {Q : State → Prop} {z0 b Ls t d : Nat} {xs : Nat → Int32} {D : va_G} {cy : Nat → ClassId} {ad : Nat → Nat} {th : Int32} {g : Nat → va_E} (X : vCx p s m args c cL_law RL 9 z0 D cy) (hX : va_X b Ls xs s s.heap) (hbl : b < s.heap.size) (hz : ¬ z0 ≤ b) (ht : 5 * t + 5 ≤ Ls) (hLs : Ls ≤ 2560) (hI : Inv cy ad d th g) (hdd : d ≤ 1000000) (hc : cells + 96 ≤ 652942) (hs : slots + 635 ≤ 7137278) (kk : ∀ th' g', Inv cy ad (d + 100) th' g' → vV p l e room_1 s m args below meth c 9 z0 D (cells + 96) (slots + 635) Q 62 ad g' 1427 [some (.ref b), some (.ref (ad 0)), some (.ref (ad 54)), some (.ref (ad 61)), some (.int (nI (5 * t))), none, none, none, none] []) : vV p l e room_1 s m args below meth c 9 z0 D cells slots Q 62 ad g 1303 [some (.ref b), some (.ref (ad 0)), some (.ref (ad 54)), some (.ref (ad 61)), some (.int (nI (5 * t))), none, none, none, none] [] := by
  refine v_aload1 X dL_law_1303 rfl ?_
  refine v_aload0 X dL_law_1304 rfl ?_
  refine v_iload X dL_law_1305 rfl ?_
  refine v_ico (v := 1) X dL_law_1307 (by decide) ?_
  refine v_iadd X dL_law_1308 ?_
  refine v_sld X hX hbl hz dL_law_1309 (nI_add (5 * t) 1) (by omega) (by omega) ?_
  refine v_aload3 X dL_law_1310 rfl ?_
  obtain ⟨PW, hW, hrest⟩ := co_advise l hst (z0 := z0) (D := D) hI hdd (xs (5 * t + 1))
  refine v_callSW (As := [.ref (ad 0), .int (xs (5 * t + 1)), .ref (ad 61)]) X wm_L_140 wt_L_advise wz_L wc_L_advise ⟨by decide, by decide, (show (parseMethodDescriptor yL_advise.desc).map (fun d => d.parameters.length) = some 3 from by decide +kernel)⟩ dL_law_1311 hW rfl (Nat.le_of_ble_eq_true rfl) ⟨(Nat.le_of_ble_eq_true rfl), (Nat.le_of_ble_eq_true rfl), by show cells + 1 ≤ 652942; omega, by show slots + 6 ≤ 7137278; omega⟩ ?_
  intro r n' ad' g1 hp
  obtain ⟨k, b2, g2, rm, mc, ms, er, en, ea, ⟨q1, q2, q3, q4, q5, q6⟩, ⟨e1, fs, he1, he2⟩, hM, hI2, hk0, hB2⟩ := hrest r n' ad' g1 hp
  rw [er, en, ea]
  refine v_istore5 X rfl (Nat.le_of_ble_eq_true rfl) dL_law_1314 ?_
  refine v_aload2 X dL_law_1316 rfl ?_
  refine v_aload0 X dL_law_1317 rfl ?_
  refine v_iload X dL_law_1318 rfl ?_
  refine v_ico (v := 1) X dL_law_1320 (by decide) ?_
  refine v_iadd X dL_law_1321 ?_
  refine v_sld X hX hbl hz dL_law_1322 (nI_add (5 * t) 1) (by omega) (by omega) ?_
  refine v_callV (As := [.int (xs (5 * t + 1))]) X wm_L_142 wi_X5_advise ws_X5_advise wz_X5 wc_X5_advise ⟨rfl, by decide, by decide, (show (parseMethodDescriptor yX5_advise.desc).map (fun d => d.parameters.length) = some 1 from by decide +kernel)⟩ rfl dL_law_1323 hM (he2 ▸ he1) rfl (Nat.le_of_ble_eq_true rfl) ⟨q1, q2, by show rm.frames + 1 ≤ 11; omega, by show 8 + (7 + 11) + rm.locals ≤ 390; omega, by show cells + 1 + mc ≤ 652942; omega, by show slots + 6 + ms ≤ 7137278; omega⟩ ?_
  rintro r2 n2 ad2 g3 ⟨er2, en2, ea2, eg2⟩
  rw [er2, en2, ea2, eg2]
  refine v_istore6 X rfl (Nat.le_of_ble_eq_true rfl) dL_law_1326 ?_
  refine v_aload2 X dL_law_1328 rfl ?_
  obtain ⟨e3, fs3, he3, he4⟩ := hI2.at54
  refine cl_L_84 X dL_law_1329 hI2.thrown he3 he4 (Nat.le_of_ble_eq_true rfl) ⟨rfl, rfl, (Nat.le_of_ble_eq_true rfl), (Nat.le_of_ble_eq_true rfl), by show cells + 1 + mc + 0 ≤ 652942; omega, by show slots + 6 + ms + 0 ≤ 7137278; omega⟩ ?_
  rintro r4 n4 ad4 g4 ⟨er4, en4, ea4, eg4⟩
  rw [er4, en4, ea4, eg4]
  refine v_iload X dL_law_1332 rfl ?_
  refine v_icmp_eq (tgt := 1339) X dL_law_1334 (by decide) (fun _ => ?_) (fun hc => absurd rfl hc)
  have hend : vV p l e room_1 s m args below meth c 9 z0 D (cells + 1 + mc + 0) (slots + 6 + ms + 0) Q 62 ad g2 1356 [some (.ref b), some (.ref (ad 0)), some (.ref (ad 54)), some (.ref (ad 61)), some (.int (nI (5 * t))), none, none, none, none] [] := by
    refine v_goto (tgt := 1427) X dL_law_1356 (by decide) ?_
    exact (kk k g2 hI2).wd (by omega) (by omega)
  have hend' : vV p l e room_1 s m args below meth c 9 z0 D (cells + 1 + mc + 0) (slots + 6 + ms + 0) Q 62 ad g2 1356 [some (.ref b), some (.ref (ad 0)), some (.ref (ad 54)), some (.ref (ad 61)), some (.int (nI (5 * t))), some (.int k), some (.int b2), none, none] [] := vV.le (A := [some (.ref b), some (.ref (ad 0)), some (.ref (ad 54)), some (.ref (ad 61)), some (.int (nI (5 * t))), none, none, none, none]) ⟨rfl, rfl, rfl, rfl, rfl, trivial⟩ hend
  refine v_iload X dL_law_1339 rfl ?_
  refine v_if_ne (tgt := 1356) X dL_law_1341 (by decide) (fun _ => hend') (fun hk => ?_)
  obtain ⟨f, hf, hf2⟩ := hk0 hk
  refine v_aload3 X dL_law_1344 rfl ?_
  refine v_ico (v := 0) X dL_law_1345 (by decide) ?_
  refine v_lald (j := 0) X dL_law_1346 hf rfl (by decide) (by decide) ?_
  refine v_iload X dL_law_1347 rfl ?_
  refine v_i2l X dL_law_1349 ?_
  refine v_lcmpE X hf2 dL_law_1350 ?_
  refine v_if_eq (tgt := 1356) X dL_law_1351 (by decide) (fun _ => ?_) (fun hc => absurd rfl hc)
  exact hend'
