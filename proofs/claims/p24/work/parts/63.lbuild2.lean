/-! the law's village and the class's built alike: houses, weather, the whole -/
section BE
variable {l : Launch} {p : Program} {e : Env} {s : State} {m : MethodId} {A : Array Value} {below : List Frame} {meth : Method} {c : Code} {Q : State → Prop} {z0 n : Nat} {D : va_G} {cy : Nat → ClassId} {ad : Nat → Nat}
set_option maxRecDepth 100000 in
set_option maxHeartbeats 4000000 in
/-- the houses -/
theorem v_bB (X : vCx p s m A c cL_build RL 9 z0 D cy) {N : Nat} (hN8 : N ≤ 8) {ra le : Nat → Int32} {g0 : Nat → va_E} {ad0 : Nat → Nat}
    (hend : ∀ (ad : Nat → Nat) (S : tS) (cells slots : Nat), (∀ j, j < 54 → ad j = ad0 j) → sN S = N → sP S = 0 → IJ cy ad S ra le g0 0 → cells ≤ 87 → slots ≤ 427 → vV p l e { frames := 14, cells := 110, slots := 600, locals := 300 } s m A below meth c 9 z0 D cells slots Q (97 + sN S + sP S) ad (jW cy ad S S ra le g0) 273 [some (.ref (ad 0)), some (.ref (cy 9)), some (.ref (ad 54)), some (.int (nI N)), none, none, none, none, none] []) :
    ∀ (q k : Nat), q + k = N → ∀ (ad : Nat → Nat) (S : tS), (∀ j, j < 54 → ad j = ad0 j) → sN S = k → sP S = 0 → IJ cy ad S ra le g0 0 → vV p l e { frames := 14, cells := 110, slots := 600, locals := 300 } s m A below meth c 9 z0 D (71 + 2 * k) (259 + 21 * k) Q (97 + sN S + sP S) ad (jW cy ad S S ra le g0) 134 [some (.ref (ad 0)), some (.ref (cy 9)), some (.ref (ad 54)), some (.int (nI N)), some (.int (nI k)), none, none, none, none] [] := by
  intro q
  induction q with
  | zero =>
    intro k hk ad S had hSN hSP hI
    have : k = N := by omega
    subst this
    refine v_iload X dL_build_134 rfl ?_
    refine v_iload3 X dL_build_136 rfl ?_
    refine v_icmp_ge (tgt := 273) X dL_build_137 (by decide) (fun hc => ?_) (fun hc => ?_)
    · exact vV.le (by exact ⟨rfl, rfl, rfl, rfl, trivial⟩) (hend ad S _ _ had hSN hSP hI (by omega) (by omega))
    · exact absurd (Int32.le_refl _) hc
  | succ q ih =>
    intro k hk ad S had hSN hSP hI
    obtain ⟨ho, hdb, hwk, hd, hB⟩ := hI
    -- behind the number below which the room is
    have h194 : ∀ (M : Nat) (v r1 : Int32), 0 < M → M ≤ 891 → IN r1 1 30 → vV p l e { frames := 14, cells := 110, slots := 600, locals := 300 } s m A below meth c 9 z0 D (71 + 2 * k) (259 + 21 * k) Q (97 + sN S + sP S) ad (jW cy ad S S ra le g0) 194 [some (.ref (ad 0)), some (.ref (cy 9)), some (.ref (ad 54)), some (.int (nI N)), some (.int (nI k)), some (.int r1), none, none, none] [.int (nI M), .int v, .int 10] := by
      intro M v r1 hM0 hM i1
      refine v_below X dL_build_194 (N := M) rfl (by omega) (by omega) (Nat.le_of_ble_eq_true rfl) ⟨(Nat.le_of_ble_eq_true rfl), (Nat.le_of_ble_eq_true rfl), (by first | (show _ ≤ 110; omega) | (show _ ≤ 600; omega)), (by first | (show _ ≤ 110; omega) | (show _ ≤ 600; omega))⟩ ?_
      generalize hh1 : bel v M = h1
      have hh2 : h1 < M := by rw [← hh1]; exact bel_lt _ hM0
      have i2 : IN (10 + nI h1) 10 900 := IN_add (a := 10) (b := 900) (by omega) (by omega)
      refine v_iadd X dL_build_197 ?_
      refine v_istore6 X rfl (Nat.le_of_ble_eq_true rfl) dL_build_198 ?_
      refine v_aload1 X dL_build_200 rfl ?_
      refine v_bip (v := 6) X dL_build_201 (by decide) ?_
      refine v_cell X dL_build_203 (j := 6) rfl (by omega) (Nat.le_of_ble_eq_true rfl) ⟨(Nat.le_of_ble_eq_true rfl), (Nat.le_of_ble_eq_true rfl), (by first | (show _ ≤ 110; omega) | (show _ ≤ 600; omega)), (by first | (show _ ≤ 110; omega) | (show _ ≤ 600; omega))⟩ fun x203 => ?_
      refine v_ico (v := 2) X dL_build_206 (by decide) ?_
      refine v_iload X dL_build_207 rfl ?_
      refine v_imul X dL_build_209 ?_
      refine v_ishr X dL_build_210 ?_
      refine v_bip (v := 10) X dL_build_211 (by decide) ?_
      refine v_below X dL_build_213 (N := 10) rfl (by omega) (by omega) (Nat.le_of_ble_eq_true rfl) ⟨(Nat.le_of_ble_eq_true rfl), (Nat.le_of_ble_eq_true rfl), (by first | (show _ ≤ 110; omega) | (show _ ≤ 600; omega)), (by first | (show _ ≤ 110; omega) | (show _ ≤ 600; omega))⟩ ?_
      generalize hp1 : bel (x203 >>> (2 * nI k &&& 31)) 10 = p1
      have i3 : IN (nI p1) 0 9 := IN_0 (b := 9) (by have := bel_lt (x203 >>> (2 * nI k &&& 31)) (N := 10) (by omega); omega) (by omega)
      refine v_istore7 X rfl (Nat.le_of_ble_eq_true rfl) dL_build_216 ?_
      refine v_aload1 X dL_build_218 rfl ?_
      refine v_bip (v := 7) X dL_build_219 (by decide) ?_
      refine v_cell X dL_build_221 (j := 7) rfl (by omega) (Nat.le_of_ble_eq_true rfl) ⟨(Nat.le_of_ble_eq_true rfl), (Nat.le_of_ble_eq_true rfl), (by first | (show _ ≤ 110; omega) | (show _ ≤ 600; omega)), (by first | (show _ ≤ 110; omega) | (show _ ≤ 600; omega))⟩ fun x221 => ?_
      refine v_ico (v := 2) X dL_build_224 (by decide) ?_
      refine v_iload X dL_build_225 rfl ?_
      refine v_imul X dL_build_227 ?_
      refine v_ishr X dL_build_228 ?_
      refine v_bip (v := 21) X dL_build_229 (by decide) ?_
      refine v_below X dL_build_231 (N := 21) rfl (by omega) (by omega) (Nat.le_of_ble_eq_true rfl) ⟨(Nat.le_of_ble_eq_true rfl), (Nat.le_of_ble_eq_true rfl), (by first | (show _ ≤ 110; omega) | (show _ ≤ 600; omega)), (by first | (show _ ≤ 110; omega) | (show _ ≤ 600; omega))⟩ ?_
      generalize hq1 : bel (x221 >>> (2 * nI k &&& 31)) 21 = q1
      have i4 : IN (nI q1) 0 20 := IN_0 (b := 20) (by have := bel_lt (x221 >>> (2 * nI k &&& 31)) (N := 21) (by omega); omega) (by omega)
      have hoT := buildT_ok ho (by omega) i1 i2 i3 i4
      generalize 10 + nI h1 = h2 at *
      refine v_istore8 X rfl (Nat.le_of_ble_eq_true rfl) dL_build_234 ?_
      refine v_aload0 X dL_build_236 rfl ?_
      refine v_iload X dL_build_237 rfl ?_
      refine v_iload X dL_build_239 rfl ?_
      refine v_iload X dL_build_241 rfl ?_
      refine v_iload X dL_build_243 rfl ?_
      refine cd_L_32 X dL_build_245 (c_build l (hB.R (by omega)) ho (by omega) (hB.h (by omega) (by omega)) i1 i2 i3 i4) (jS_r hB (by omega)) rfl (Nat.le_of_ble_eq_true rfl) ⟨(Nat.le_of_ble_eq_true rfl), (Nat.le_of_ble_eq_true rfl), (by first | (show _ ≤ 110; omega) | (show _ ≤ 600; omega)), (by first | (show _ ≤ 110; omega) | (show _ ≤ 600; omega))⟩ ?_
      refine v_iload X dL_build_248 rfl ?_
      refine v_icmp_eq (tgt := 255) X dL_build_250 (by decide) (fun _ => ?_) (fun hc => absurd (by rw [hSN]) hc)
      refine vV.gg (jW_c hoT.1 hoT.2.1) ?_
      refine v_aload2 X dL_build_255 rfl ?_
      refine v_iload X dL_build_256 rfl ?_
      refine v_iload X dL_build_258 rfl ?_
      refine v_iload X dL_build_260 rfl ?_
      refine v_iload X dL_build_262 rfl ?_
      refine cl_L_36 X dL_build_264 (c_X6_build l (by omega) hSP ho.1) (gS_s (Nat.le_refl _)) rfl (Nat.le_of_ble_eq_true rfl) ⟨rfl, rfl, Nat.le_of_ble_eq_true rfl, Nat.le_of_ble_eq_true rfl, by show _ ≤ 110; omega, by show _ ≤ 600; omega⟩ ?_
      rintro r n' ad2 g2 ⟨rfl, rfl, a2, w2⟩
      refine vV.eqn (pc' := 267) (st' := []) ?_ rfl rfl rfl
      refine vV.eqw (ad' := ad2) (g' := jW cy ad2 (buildT r1 h2 (nI p1) (nI q1) S) (buildT r1 h2 (nI p1) (nI q1) S) ra le g0) (fun _ _ => rfl) (fun k1 hk1 => ?_) ?_
      · rw [jW_c hoT.1 hoT.2.1, jW_gV (fun j hj => a2 j (by omega))]
        exact (w2 k1 hk1).symm
      rw [← a2 0 (by omega), ← a2 54 (by omega)]
      refine v_iinc4 (v := nI (k + 1)) X rfl (Nat.le_of_ble_eq_true rfl) dL_build_267 (nI_inc k) ?_
      refine v_goto (tgt := 134) X dL_build_270 (by decide) ?_
      have j1 := ih (k + 1) (by omega) ad2 (buildT r1 h2 (nI p1) (nI q1) S) (fun j hj => (a2 j (by omega)).trans (had j hj)) (by show sN S + 1 = k + 1; rw [hSN]) hSP ⟨hoT, ⟨hdb.1.qf rfl rfl rfl, cons_build hdb.2⟩, hwk, hd, (hB.to (T := buildT r1 h2 (nI p1) (nI q1) S) (Nat.le_succ _) (Nat.le_refl _)).adr (fun j hj => a2 j (by omega))⟩
      exact (vV.le (by exact ⟨rfl, rfl, rfl, rfl, rfl, trivial⟩) j1).wd (by omega) (by omega)
    refine v_iload X dL_build_134 rfl ?_
    refine v_iload3 X dL_build_136 rfl ?_
    refine v_icmp_ge (tgt := 273) X dL_build_137 (by decide) (fun hc => ?_) (fun hc => ?_)
    · exact absurd hc (nIge (by omega) (by omega))
    refine v_ico (v := 1) X dL_build_140 (by decide) ?_
    refine v_aload1 X dL_build_141 rfl ?_
    refine v_ico (v := 4) X dL_build_142 (by decide) ?_
    refine v_cell X dL_build_143 (j := 4) rfl (by omega) (Nat.le_of_ble_eq_true rfl) ⟨(Nat.le_of_ble_eq_true rfl), (Nat.le_of_ble_eq_true rfl), (by first | (show _ ≤ 110; omega) | (show _ ≤ 600; omega)), (by first | (show _ ≤ 110; omega) | (show _ ≤ 600; omega))⟩ fun x143 => ?_
    refine v_ico (v := 2) X dL_build_146 (by decide) ?_
    refine v_iload X dL_build_147 rfl ?_
    refine v_imul X dL_build_149 ?_
    refine v_ishr X dL_build_150 ?_
    refine v_bip (v := 30) X dL_build_151 (by decide) ?_
    refine v_below X dL_build_153 (N := 30) rfl (by omega) (by omega) (Nat.le_of_ble_eq_true rfl) ⟨(Nat.le_of_ble_eq_true rfl), (Nat.le_of_ble_eq_true rfl), (by first | (show _ ≤ 110; omega) | (show _ ≤ 600; omega)), (by first | (show _ ≤ 110; omega) | (show _ ≤ 600; omega))⟩ ?_
    generalize hr1 : bel (x143 >>> (2 * nI k &&& 31)) 30 = r1
    have i1 : IN (1 + nI r1) 1 30 := IN_add (a := 1) (b := 30) (by have := bel_lt (x143 >>> (2 * nI k &&& 31)) (N := 30) (by omega); omega) (by omega)
    refine v_iadd X dL_build_156 ?_
    refine v_istore5 X rfl (Nat.le_of_ble_eq_true rfl) dL_build_157 ?_
    refine v_bip (v := 10) X dL_build_159 (by decide) ?_
    refine v_aload1 X dL_build_161 rfl ?_
    refine v_ico (v := 5) X dL_build_162 (by decide) ?_
    refine v_cell X dL_build_163 (j := 5) rfl (by omega) (Nat.le_of_ble_eq_true rfl) ⟨(Nat.le_of_ble_eq_true rfl), (Nat.le_of_ble_eq_true rfl), (by first | (show _ ≤ 110; omega) | (show _ ≤ 600; omega)), (by first | (show _ ≤ 110; omega) | (show _ ≤ 600; omega))⟩ fun x163 => ?_
    refine v_ico (v := 2) X dL_build_166 (by decide) ?_
    refine v_iload X dL_build_167 rfl ?_
    refine v_imul X dL_build_169 ?_
    refine v_ishr X dL_build_170 ?_
    refine v_aload1 X dL_build_171 rfl ?_
    refine v_ico (v := 5) X dL_build_172 (by decide) ?_
    refine v_cell X dL_build_173 (j := 5) rfl (by omega) (Nat.le_of_ble_eq_true rfl) ⟨(Nat.le_of_ble_eq_true rfl), (Nat.le_of_ble_eq_true rfl), (by first | (show _ ≤ 110; omega) | (show _ ≤ 600; omega)), (by first | (show _ ≤ 110; omega) | (show _ ≤ 600; omega))⟩ fun x173 => ?_
    refine v_iload X dL_build_176 rfl ?_
    refine v_ishr X dL_build_178 ?_
    refine v_ico (v := 2) X dL_build_179 (by decide) ?_
    refine v_below X dL_build_180 (N := 2) rfl (by omega) (by omega) (Nat.le_of_ble_eq_true rfl) ⟨(Nat.le_of_ble_eq_true rfl), (Nat.le_of_ble_eq_true rfl), (by first | (show _ ≤ 110; omega) | (show _ ≤ 600; omega)), (by first | (show _ ≤ 110; omega) | (show _ ≤ 600; omega))⟩ ?_
    refine v_if_ne (tgt := 192) X dL_build_183 (by decide) (fun h5 => ?_) (fun h5 => ?_)
    · refine v_bip (v := 90) X dL_build_192 (by decide) ?_
      exact h194 90 _ _ (by omega) (by omega) i1
    · refine v_sip (v := 891) X dL_build_186 (by decide) ?_
      refine v_goto (tgt := 194) X dL_build_189 (by decide) ?_
      exact h194 891 _ _ (by omega) (by omega) i1
theorem S0_ok : ok S0 := ⟨Nat.zero_le _, Nat.zero_le _, fun h hh => absurd hh (Nat.not_lt_zero _), fun h hh => absurd hh (Nat.not_lt_zero _), fun h hh => absurd hh (Nat.not_lt_zero _)⟩
set_option maxRecDepth 100000 in
set_option maxHeartbeats 4000000 in
/-- the weather -/
theorem v_bA (X : vCx p s m A c cL_build RL 9 z0 D cy) {ad0 : Nat → Nat}
    (hend : ∀ (ad : Nat → Nat) (ra le : Nat → Int32) (g0 : Nat → va_E), (∀ j, j < 54 → ad j = ad0 j) → wok ra le → BJ cy ad S0 ra le g0 → vV p l e { frames := 14, cells := 110, slots := 600, locals := 300 } s m A below meth c 9 z0 D 71 259 Q 97 ad (jW cy ad S0 S0 ra le g0) 118 [some (.ref (ad 0)), some (.ref (cy 9)), some (.ref (ad 54)), none, none, none, none, none, none] []) :
    ∀ (q i : Nat), q + i = 28 → ∀ (ad : Nat → Nat) (ra le : Nat → Int32) (g0 : Nat → va_E), (∀ j, j < 54 → ad j = ad0 j) → wok ra le → (∀ j, i ≤ j → ra j = 0 ∧ le j = 0) → BJ cy ad S0 ra le g0 → vV p l e { frames := 14, cells := 110, slots := 600, locals := 300 } s m A below meth c 9 z0 D (43 + i) (203 + 2 * i) Q 97 ad (jW cy ad S0 S0 ra le g0) 10 [some (.ref (ad 0)), some (.ref (cy 9)), some (.ref (ad 54)), some (.int (nI i)), none, none, none, none, none] [] := by
  intro q
  induction q with
  | zero =>
    intro i hi ad ra le g0 had hwk hz hB
    have : i = 28 := by omega
    subst this
    refine v_iload3 X dL_build_10 rfl ?_
    refine v_bip (v := 28) X dL_build_11 (by decide) ?_
    refine v_icmp_ge (tgt := 118) X dL_build_13 (by decide) (fun _ => ?_) (fun hc => absurd (Int32.le_refl _) hc)
    exact (vV.le (by exact ⟨rfl, rfl, rfl, trivial⟩) (hend ad ra le g0 had hwk hB)).wd (by omega) (by omega)
  | succ q ih =>
    intro i hi ad ra le g0 had hwk hz hB
    have h49 : ∀ r : Int32, IN r 0 20 → vV p l e { frames := 14, cells := 110, slots := 600, locals := 300 } s m A below meth c 9 z0 D (43 + i) (203 + 2 * i) Q 97 ad (jW cy ad S0 S0 ra le g0) 49 [some (.ref (ad 0)), some (.ref (cy 9)), some (.ref (ad 54)), some (.int (nI i)), none, none, none, none, none] [.int r] := by
      intro r ir
      refine v_istore4 X rfl (Nat.le_of_ble_eq_true rfl) dL_build_49 ?_
      refine v_aload1 X dL_build_51 rfl ?_
      refine v_ico (v := 2) X dL_build_52 (by decide) ?_
      refine v_cell X dL_build_53 (j := 2) rfl (by omega) (Nat.le_of_ble_eq_true rfl) ⟨(Nat.le_of_ble_eq_true rfl), (Nat.le_of_ble_eq_true rfl), (by first | (show _ ≤ 110; omega) | (show _ ≤ 600; omega)), (by first | (show _ ≤ 110; omega) | (show _ ≤ 600; omega))⟩ fun x53 => ?_
      refine v_iload3 X dL_build_56 rfl ?_
      refine v_ishr X dL_build_57 ?_
      refine v_ico (v := 4) X dL_build_58 (by decide) ?_
      refine v_below X dL_build_59 (N := 4) rfl (by omega) (by omega) (Nat.le_of_ble_eq_true rfl) ⟨(Nat.le_of_ble_eq_true rfl), (Nat.le_of_ble_eq_true rfl), (by first | (show _ ≤ 110; omega) | (show _ ≤ 600; omega)), (by first | (show _ ≤ 110; omega) | (show _ ≤ 600; omega))⟩ ?_
      refine v_aload1 X dL_build_62 rfl ?_
      refine v_ico (v := 0) X dL_build_63 (by decide) ?_
      refine v_cell X dL_build_64 (j := 0) rfl (by omega) (Nat.le_of_ble_eq_true rfl) ⟨(Nat.le_of_ble_eq_true rfl), (Nat.le_of_ble_eq_true rfl), (by first | (show _ ≤ 110; omega) | (show _ ≤ 600; omega)), (by first | (show _ ≤ 110; omega) | (show _ ≤ 600; omega))⟩ fun x64 => ?_
      refine v_iload3 X dL_build_67 rfl ?_
      refine v_bip (v := 9) X dL_build_68 (by decide) ?_
      refine v_irem X dL_build_70 (by decide) ?_
      refine v_ishr X dL_build_71 ?_
      refine v_ico (v := 2) X dL_build_72 (by decide) ?_
      refine v_below X dL_build_73 (N := 2) rfl (by omega) (by omega) (Nat.le_of_ble_eq_true rfl) ⟨(Nat.le_of_ble_eq_true rfl), (Nat.le_of_ble_eq_true rfl), (by first | (show _ ≤ 110; omega) | (show _ ≤ 600; omega)), (by first | (show _ ≤ 110; omega) | (show _ ≤ 600; omega))⟩ ?_
      generalize hb1 : bel (x53 >>> (nI i &&& 31)) 4 = b1
      have hb2 : b1 < 4 := by rw [← hb1]; exact bel_lt _ (by omega)
      generalize hb3 : bel (x64 >>> ((nI i - nI i / 9 * 9) &&& 31)) 2 = b3
      have hb4 : b3 < 2 := by rw [← hb3]; exact bel_lt _ (by omega)
      have ie : IN (nI b1 * nI b3) 0 3 := by
        rw [nI_mul]
        have h3 : b1 * b3 ≤ 3 * 1 := Nat.mul_le_mul (by omega) (by omega)
        exact IN_0 (b := 3) (by omega) (by omega)
      generalize hle : nI b1 * nI b3 = e1 at ie
      refine v_imul X dL_build_76 ?_
      rw [hle]
      refine v_istore5 X rfl (Nat.le_of_ble_eq_true rfl) dL_build_77 ?_
      refine v_aload2 X dL_build_79 rfl ?_
      refine gf_L_22 X dL_build_80 (jS_s S0_ok (Nat.le_refl 97)) ?_
      refine v_iload3 X dL_build_83 rfl ?_
      refine v_ico (v := 2) X dL_build_84 (by decide) ?_
      refine v_newi (N := 2) X rfl (by omega) ⟨by show _ ≤ 110; omega, by show _ ≤ 600; omega⟩ dL_build_85 ?_
      intro ad3 a3
      rw [← a3 0 (by omega), ← a3 54 (by omega), ← a3 55 (by omega), ← jW_ad (ad' := ad3) (S := S0) (T := S0) (fun k hk => a3 k hk)]
      refine v_dup X dL_build_87 rfl ?_
      refine v_ico (v := 0) X dL_build_88 (by decide) ?_
      refine v_iload X dL_build_89 rfl ?_
      refine v_iast X dL_build_91 ⟨by omega, va_up_self _ _ _⟩ rfl (by decide) (by decide) ?_
      refine vV.gg (va_up_up _ _ _ _) ?_
      refine v_dup X dL_build_92 rfl ?_
      refine v_ico (v := 1) X dL_build_93 (by decide) ?_
      refine v_iload X dL_build_94 rfl ?_
      refine v_iast X dL_build_96 ⟨by omega, va_up_self _ _ _⟩ rfl (by decide) (by decide) ?_
      refine vV.gg (va_up_up _ _ _ _) ?_
      refine v_aastA (j := i) (M := 2) X dL_build_97 ((jS_w S0_ok (n := 97 + 1) (by show 97 + 0 + 0 ≤ 97 + 1; omega)).ne (by omega)) ⟨by omega, va_up_self _ _ _⟩ rfl (by omega) (by omega) ?_
      refine v_wst (n := 97) (t := i) (Nat.le_refl _) S0_ok.1 S0_ok.2.1 (by omega) ?_
      have h4o : ∀ j, j < 55 → (fun k => ad3 (swp (56 + i) 97 k)) j = ad3 j := fun j hj => by
        show ad3 (swp (56 + i) 97 j) = ad3 j
        rw [swp_o (by omega) (by omega)]
      generalize (fun k => ad3 (swp (56 + i) 97 k)) = ad4 at h4o
      refine vV.cut (n' := 97) (ad' := ad4) (g' := jW cy ad4 S0 S0 (upd ra i r) (upd le i e1) g0) (by omega) (fun _ _ => rfl) (fun k hk => (va_up_ne _ _ (by omega)).symm) ?_
      rw [← h4o 0 (by omega), ← h4o 54 (by omega)]
      have hB2 : BJ cy ad4 S0 ra le g0 := hB.adr (fun j hj => (h4o j (by omega)).trans (a3 j (by omega)))
      refine v_aload0 X dL_build_98 rfl ?_
      refine v_iload3 X dL_build_99 rfl ?_
      refine v_iload X dL_build_100 rfl ?_
      refine v_iload X dL_build_102 rfl ?_
      refine cd_L_26 X dL_build_104 (c_setWeather l (hB2.R (by omega)) (hB2.W (by omega)) (by omega) (IN_0 (b := 27) (by omega) (by omega)) ir ie) (jS_r hB2 (by omega)) rfl (Nat.le_of_ble_eq_true rfl) ⟨(Nat.le_of_ble_eq_true rfl), (Nat.le_of_ble_eq_true rfl), (by first | (show _ ≤ 110; omega) | (show _ ≤ 600; omega)), (by first | (show _ ≤ 110; omega) | (show _ ≤ 600; omega))⟩ ?_
      refine vV.gg (jW_w) ?_
      obtain ⟨z1, z2⟩ := hz i (Nat.le_refl _)
      rw [z1, z2]
      refine v_if_eq (tgt := 112) X dL_build_107 (by decide) (fun _ => ?_) (fun hc => absurd (by decide) hc)
      refine v_iinc3 (v := nI (i + 1)) X rfl (Nat.le_of_ble_eq_true rfl) dL_build_112 (nI_inc i) ?_
      refine v_goto (tgt := 10) X dL_build_115 (by decide) ?_
      have j1 := ih (i + 1) (by omega) ad4 (upd ra i r) (upd le i e1) _ (fun j hj => ((h4o j (by omega)).trans (a3 j (by omega))).trans (had j hj)) (wok_set hwk ir ie) (fun j hj => by rw [upd_n _ _ (by omega), upd_n _ _ (by omega)]; exact hz j (by omega)) hB2.w
      exact (vV.le (by exact ⟨rfl, rfl, rfl, rfl, trivial⟩) j1).wd (by omega) (by omega)
    refine v_iload3 X dL_build_10 rfl ?_
    refine v_bip (v := 28) X dL_build_11 (by decide) ?_
    refine v_icmp_ge (tgt := 118) X dL_build_13 (by decide) (fun hc => ?_) (fun hc => ?_)
    · exact absurd hc (nIge (N := 28) (by omega) (by omega))
    refine v_aload1 X dL_build_16 rfl ?_
    refine v_ico (v := 0) X dL_build_17 (by decide) ?_
    refine v_cell X dL_build_18 (j := 0) rfl (by omega) (Nat.le_of_ble_eq_true rfl) ⟨(Nat.le_of_ble_eq_true rfl), (Nat.le_of_ble_eq_true rfl), (by first | (show _ ≤ 110; omega) | (show _ ≤ 600; omega)), (by first | (show _ ≤ 110; omega) | (show _ ≤ 600; omega))⟩ fun x18 => ?_
    refine v_iload3 X dL_build_21 rfl ?_
    refine v_ishr X dL_build_22 ?_
    refine v_ico (v := 3) X dL_build_23 (by decide) ?_
    refine v_below X dL_build_24 (N := 3) rfl (by omega) (by omega) (Nat.le_of_ble_eq_true rfl) ⟨(Nat.le_of_ble_eq_true rfl), (Nat.le_of_ble_eq_true rfl), (by first | (show _ ≤ 110; omega) | (show _ ≤ 600; omega)), (by first | (show _ ≤ 110; omega) | (show _ ≤ 600; omega))⟩ ?_
    refine v_if_ne (tgt := 48) X dL_build_27 (by decide) (fun h5 => ?_) (fun h5 => ?_)
    · refine v_ico (v := 0) X dL_build_48 (by decide) ?_
      exact h49 0 ⟨by decide, by decide⟩
    · refine v_aload1 X dL_build_30 rfl ?_
      refine v_ico (v := 1) X dL_build_31 (by decide) ?_
      refine v_cell X dL_build_32 (j := 1) rfl (by omega) (Nat.le_of_ble_eq_true rfl) ⟨(Nat.le_of_ble_eq_true rfl), (Nat.le_of_ble_eq_true rfl), (by first | (show _ ≤ 110; omega) | (show _ ≤ 600; omega)), (by first | (show _ ≤ 110; omega) | (show _ ≤ 600; omega))⟩ fun x32 => ?_
      refine v_iload3 X dL_build_35 rfl ?_
      refine v_bip (v := 20) X dL_build_36 (by decide) ?_
      refine v_irem X dL_build_38 (by decide) ?_
      refine v_ishr X dL_build_39 ?_
      refine v_bip (v := 21) X dL_build_40 (by decide) ?_
      refine v_below X dL_build_42 (N := 21) rfl (by omega) (by omega) (Nat.le_of_ble_eq_true rfl) ⟨(Nat.le_of_ble_eq_true rfl), (Nat.le_of_ble_eq_true rfl), (by first | (show _ ≤ 110; omega) | (show _ ≤ 600; omega)), (by first | (show _ ≤ 110; omega) | (show _ ≤ 600; omega))⟩ ?_
      refine v_goto (tgt := 49) X dL_build_45 (by decide) ?_
      exact h49 _ (IN_0 (b := 20) (by have := bel_lt (x32 >>> ((nI i - nI i / 20 * 20) &&& 31)) (N := 21) (by omega); omega) (by omega))
end BE
