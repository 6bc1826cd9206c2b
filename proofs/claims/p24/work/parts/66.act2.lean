/-! something done to both villages: a valve, the weather, the whole -/
theorem BJ.up {cy : Nat → ClassId} {ad : Nat → Nat} {S : tS} {ra le : Nat → Int32} {g0 : Nat → va_E} {n : Nat} {e : va_E} (h : BJ cy ad S ra le g0) (hn : 54 ≤ n) : BJ cy ad S ra le (va_up g0 n e) := by
  obtain ⟨h1, h2, ⟨v0, ⟨S1, v1⟩, v2, v3, v4, v5⟩, h4, h5⟩ := h
  have q : ∀ k, k < 54 → va_up g0 n e k = g0 k := fun k hk => va_up_ne _ _ (by omega)
  refine ⟨⟨h1.1, h1.2.1, (q 0 (by omega)).trans h1.2.2⟩, ⟨⟨by omega, (q 1 (by omega)).trans h2.1.2⟩, ⟨by omega, (q 2 (by omega)).trans h2.2.1.2⟩, ⟨by omega, (q 3 (by omega)).trans h2.2.2.2⟩⟩, ⟨v0, ⟨S1, (q _ (by omega)).trans v1⟩, (q _ (by omega)).trans v2, (q _ (by omega)).trans v3, fun j hj => ?_, fun j hj => ?_⟩, fun j a b => (q _ (by omega)).trans (h4 j a b), fun j a b => (q _ (by omega)).trans (h5 j a b)⟩
  · obtain ⟨f, hf⟩ := v4 j hj
    exact ⟨f, (q _ (by omega)).trans hf⟩
  · obtain ⟨f, hf⟩ := v5 j hj
    exact ⟨f, (q _ (by omega)).trans hf⟩
theorem jW_up {cy : Nat → ClassId} {ad : Nat → Nat} {S T : tS} {ra le : Nat → Int32} {g0 : Nat → va_E} {n : Nat} {e : va_E} (ho : ok S) (hn : 97 + sN T + sP T ≤ n) : va_up (jW cy ad S T ra le g0) n e = jW cy ad S T ra le (va_up g0 n e) := by
  unfold jW
  rw [gV_upo (by have := ho.1; have := ho.2.1; unfold gOut; omega), gS_upo (Or.inr hn)]
theorem jW_n {cy : Nat → ClassId} {ad : Nat → Nat} {S T : tS} {ra le : Nat → Int32} {g0 : Nat → va_E} {k : Nat} (ho : ok S) (hn : 97 + sN T + sP T ≤ k) : jW cy ad S T ra le g0 k = g0 k := by
  unfold jW
  rw [gV_out (by have := ho.1; have := ho.2.1; unfold gOut; omega), gS_out (Or.inr hn)]
section AD
variable {l : Launch} {p : Program} {e : Env} {s : State} {m : MethodId} {A : Array Value} {below : List Frame} {meth : Method} {c : Code} {Q : State → Prop} {z0 n : Nat} {D : va_G} {cy : Nat → ClassId} {ad : Nat → Nat} {S : tS} {ra le : Nat → Int32} {g0 : Nat → va_E} {d h : Nat} {x : Int32}
set_option maxRecDepth 100000 in
set_option maxHeartbeats 4000000 in
theorem v_a3 (X : vCx p s m A c cL_act RL 14 z0 D cy) (hr : meth.sig.returnType = some .boolean) (hlk : meth.locks = false) (hQ : MQ below (QcR z0 D (PA cy n ad S d)) A s 1 2 (fun q => z0 ≤ q) = Q) (hn : n = 97 + sN S + sP S) (hI : IJ cy ad S ra le g0 d) (hh : h < sN S) : vV p l e { frames := 14, cells := 1, slots := 2, locals := 300 } s m A below meth c 14 z0 D 0 0 Q n ad (jW cy ad S S ra le g0) 147 [some (.ref (ad 0)), some (.ref (ad 54)), some (.int x), some (.int (nI (sN S))), some (.int (nI h)), some (.ref (ad (97 + h))), none, none, none, none, none, none, none, none] [] := by
  obtain ⟨ho, hdb, hwk, hd, hB⟩ := id hI
  have hn' : 97 + sN S + sP S ≤ n := Nat.le_of_eq hn.symm
  have hP12 := ho.2.1
  refine v_aload1 X dL_act_147 rfl ?_
  refine gf_L_81 X dL_act_148 (jS_s ho hn') ?_
  refine v_alenA X dL_act_151 (jS_p ho hn') ?_
  refine v_if_ne (tgt := 157) X dL_act_152 (by decide) (fun h1 => ?_) (fun h1 => ?_)
  · have hP0 : 0 < sP S := Nat.pos_of_ne_zero (fun q => h1 (by rw [q]; rfl))
    refine v_iload2 X dL_act_157 rfl ?_
    refine v_ico (v := 3) X dL_act_158 (by decide) ?_
    refine v_ishr X dL_act_159 ?_
    refine v_aload1 X dL_act_160 rfl ?_
    refine gf_L_81 X dL_act_161 (jS_s ho hn') ?_
    refine v_alenA X dL_act_164 (jS_p ho hn') ?_
    refine v_below X dL_act_165 (N := sP S) rfl (by omega) (by omega) (Nat.le_of_ble_eq_true rfl) ⟨(Nat.le_of_ble_eq_true rfl), (Nat.le_of_ble_eq_true rfl), (Nat.le_of_ble_eq_true rfl), (Nat.le_of_ble_eq_true rfl)⟩ ?_
    generalize hbv : bel (x >>> (3 &&& 31)) (sP S) = b
    have hb : b < sP S := by rw [← hbv]; exact bel_lt _ hP0
    obtain ⟨-, -, -, -, -, -, -, hb3⟩ := okQ_ends ho hb
    -- behind the new valve
    have h227 : ∀ v : Int32, isB v → vV p l e { frames := 14, cells := 1, slots := 2, locals := 300 } s m A below meth c 14 z0 D 0 0 Q n ad (jW cy ad S (tuT b v S) ra le g0) 227 [some (.ref (ad 0)), some (.ref (ad 54)), some (.int x), some (.int (nI (sN S))), some (.int (nI h)), some (.ref (ad (97 + h))), none, none, some (.int (nI b)), some (.int (sQ S b 3)), none, none, none, none] [.int v, .int (nI b), .ref (ad 0)] := by
      intro v hv
      have hoT : ok (tuT b v S) := tuT_ok ho hv
      refine cd_L_84 X dL_act_227 (c_turn l (hB.R (by omega)) ho hb hv) (jS_r hB (by omega)) rfl (Nat.le_of_ble_eq_true rfl) ⟨(Nat.le_of_ble_eq_true rfl), (Nat.le_of_ble_eq_true rfl), (Nat.le_of_ble_eq_true rfl), (Nat.le_of_ble_eq_true rfl)⟩ ?_
      refine v_iload X dL_act_230 rfl ?_
      refine v_icmp_ne (tgt := 239) X dL_act_232 (by decide) (fun hc => absurd rfl hc) (fun _ => ?_)
      refine v_ico (v := 1) X dL_act_235 (by decide) ?_
      refine v_goto (tgt := 240) X dL_act_236 (by decide) ?_
      rw [← hQ]
      exact (v_zret X hr hlk dL_act_240 rfl ⟨rfl, rfl, fun _ _ _ => rfl, tuT b v S, ra, le, g0, rfl, rfl, ⟨hoT, ⟨hdb.1.qf0 rfl (fun p _ w hw => va_o (upd_n _ _ hw) p) rfl, cons_h hdb.2 rfl (fun _ => rfl) (fun _ => rfl) rfl⟩, hwk, hd, hB.to (Nat.le_refl _) (Nat.le_refl _)⟩, fun _ _ => rfl⟩).wd (by decide) (by decide)
    have h188 : vV p l e { frames := 14, cells := 1, slots := 2, locals := 300 } s m A below meth c 14 z0 D 0 0 Q n ad (jW cy ad S S ra le g0) 188 [some (.ref (ad 0)), some (.ref (ad 54)), some (.int x), some (.int (nI (sN S))), some (.int (nI h)), some (.ref (ad (97 + h))), none, none, some (.int (nI b)), none, none, none, none, none] [.int (sQ S b 3)] := by
      refine v_istore9 X rfl (Nat.le_of_ble_eq_true rfl) dL_act_188 ?_
      refine v_aload1 X dL_act_190 rfl ?_
      refine gf_L_81 X dL_act_191 (jS_s ho hn') ?_
      refine v_iload X dL_act_194 rfl ?_
      refine v_aaldR X dL_act_196 (jS_p ho hn') rfl hb (by omega) ?_
      refine v_ico (v := 3) X dL_act_197 (by decide) ?_
      refine v_iload2 X dL_act_198 rfl ?_
      refine v_ico (v := 5) X dL_act_199 (by decide) ?_
      refine v_ishr X dL_act_200 ?_
      refine v_ico (v := 2) X dL_act_201 (by decide) ?_
      refine v_below X dL_act_202 (N := 2) rfl (by omega) (by omega) (Nat.le_of_ble_eq_true rfl) ⟨(Nat.le_of_ble_eq_true rfl), (Nat.le_of_ble_eq_true rfl), (Nat.le_of_ble_eq_true rfl), (Nat.le_of_ble_eq_true rfl)⟩ ?_
      generalize hvv : bel (x >>> (5 &&& 31)) 2 = v0
      have hv2 : v0 < 2 := by rw [← hvv]; exact bel_lt _ (by omega)
      generalize hv0 : nI v0 = v
      have hv : isB v := by
        rw [← hv0]
        rcases v0 with _ | _ | v0
        · exact Or.inl rfl
        · exact Or.inr rfl
        · omega
      refine v_iast X dL_act_205 (jS_pp ho hn' hb) rfl (by decide) (by decide) ?_
      have eq : va_up (jW cy ad S S ra le g0) (97 + sN S + b) (iA cy 5 (upd (c5 (sQ S b)) 3 v)) = jW cy ad S (tuT b v S) ra le g0 := by
        rw [c5_up (by decide)]
        exact jS_upQ ho hb
      refine vV.gg eq ?_
      have hq3 : vAt n (jW cy ad S (tuT b v S) ra le g0) (97 + sN S + b) (iA cy 5 (c5 (upd (sQ S b) 3 v))) := by
        have q := jS_pp (cy := cy) (ad := ad) (S := S) (T := tuT b v S) (ra := ra) (le := le) (g0 := g0) ho hn' (i := b) hb
        have e1 : sQ (tuT b v S) b = upd (sQ S b) 3 v := va_up_self _ _ _
        rw [e1] at q
        exact q
      refine v_aload0 X dL_act_206 rfl ?_
      refine v_iload X dL_act_207 rfl ?_
      refine v_aload1 X dL_act_209 rfl ?_
      refine gf_L_81 X dL_act_210 (jS_s ho hn') ?_
      refine v_iload X dL_act_213 rfl ?_
      refine v_aaldR X dL_act_215 (jS_p (T := tuT b v S) ho hn') rfl hb (Nat.lt_of_le_of_lt hP12 (by decide)) ?_
      refine v_ico (v := 3) X dL_act_216 (by decide) ?_
      refine v_iald X dL_act_217 hq3 rfl (by decide) (by decide) ?_
      refine v_ico (v := 1) X dL_act_218 (by decide) ?_
      have ev : c5 (upd (sQ S b) 3 v) 3 = v := (c5_at (by decide)).trans (upd_s _ _ _)
      rw [ev]
      refine v_icmp_ne (tgt := 226) X dL_act_219 (by decide) (fun h5 => ?_) (fun h5 => ?_)
      · refine v_ico (v := 0) X dL_act_226 (by decide) ?_
        have e0 : v = 0 := by
          rcases hv with q | q
          · exact q
          · exact absurd q h5
        rw [e0]
        exact h227 0 (Or.inl rfl)
      · refine v_ico (v := 1) X dL_act_222 (by decide) ?_
        refine v_goto (tgt := 227) X dL_act_223 (by decide) ?_
        have e0 : v = 1 := h5
        rw [e0]
        exact h227 1 (Or.inr rfl)
    refine v_istore8 X rfl (Nat.le_of_ble_eq_true rfl) dL_act_168 ?_
    refine v_aload1 X dL_act_170 rfl ?_
    refine gf_L_81 X dL_act_171 (jS_s ho hn') ?_
    refine v_iload X dL_act_174 rfl ?_
    refine v_aaldR X dL_act_176 (jS_p ho hn') rfl hb (by omega) ?_
    refine v_ico (v := 3) X dL_act_177 (by decide) ?_
    refine v_iald X dL_act_178 (jS_pp ho hn' hb) rfl (by decide) (by decide) ?_
    refine v_ico (v := 1) X dL_act_179 (by decide) ?_
    refine v_icmp_ne (tgt := 187) X dL_act_180 (by decide) (fun h5 => ?_) (fun h5 => ?_)
    · refine v_ico (v := 0) X dL_act_187 (by decide) ?_
      have e0 : sQ S b 3 = 0 := by
        rcases hb3 with q | q
        · exact q
        · exact absurd q h5
      rw [e0] at h188
      exact h188
    · refine v_ico (v := 1) X dL_act_183 (by decide) ?_
      refine v_goto (tgt := 188) X dL_act_184 (by decide) ?_
      have e0 : sQ S b 3 = 1 := h5
      rw [e0] at h188
      exact h188
  · refine v_ico (v := 1) X dL_act_155 (by decide) ?_
    rw [← hQ]
    exact (v_zret X hr hlk dL_act_156 rfl ⟨rfl, rfl, fun _ _ _ => rfl, S, ra, le, g0, rfl, rfl, hI, fun _ _ => rfl⟩).wd (by decide) (by decide)
set_option maxRecDepth 100000 in
set_option maxHeartbeats 4000000 in
theorem v_a6 (X : vCx p s m A c cL_act RL 14 z0 D cy) (hr : meth.sig.returnType = some .boolean) (hlk : meth.locks = false) (hQ : MQ below (QcR z0 D (PA cy n ad S d)) A s 1 2 (fun q => z0 ≤ q) = Q) (hn : n = 97 + sN S + sP S) (hI : IJ cy ad S ra le g0 d) (hh : h < sN S) : vV p l e { frames := 14, cells := 1, slots := 2, locals := 300 } s m A below meth c 14 z0 D 0 0 Q n ad (jW cy ad S S ra le g0) 351 [some (.ref (ad 0)), some (.ref (ad 54)), some (.int x), some (.int (nI (sN S))), some (.int (nI h)), some (.ref (ad (97 + h))), none, none, none, none, none, none, none, none] [] := by
  obtain ⟨ho, hdb, hwk, hd, hB⟩ := id hI
  have hn' : 97 + sN S + sP S ≤ n := Nat.le_of_eq hn.symm
  have hn2 : 97 + sN S + sP S ≤ n + 1 := by omega
  refine v_iload2 X dL_act_351 rfl ?_
  refine v_ico (v := 3) X dL_act_352 (by decide) ?_
  refine v_ishr X dL_act_353 ?_
  refine v_bip (v := 28) X dL_act_354 (by decide) ?_
  refine v_below X dL_act_356 (N := 28) rfl (by omega) (by omega) (Nat.le_of_ble_eq_true rfl) ⟨(Nat.le_of_ble_eq_true rfl), (Nat.le_of_ble_eq_true rfl), (by first | (show _ ≤ 1; omega) | (show _ ≤ 2; omega)), (by first | (show _ ≤ 1; omega) | (show _ ≤ 2; omega))⟩ ?_
  generalize htv : bel (x >>> (3 &&& 31)) 28 = t
  have ht : t < 28 := by rw [← htv]; exact bel_lt _ (by omega)
  refine v_istore12 X rfl (Nat.le_of_ble_eq_true rfl) dL_act_359 ?_
  refine v_aload1 X dL_act_361 rfl ?_
  refine gf_L_22 X dL_act_362 (jS_s ho hn') ?_
  refine v_iload X dL_act_365 rfl ?_
  refine v_aaldR X dL_act_367 (jS_w ho hn') rfl ht (by omega) ?_
  refine v_astore13 X rfl (Nat.le_of_ble_eq_true rfl) dL_act_368 ?_
  refine v_aload1 X dL_act_370 rfl ?_
  refine gf_L_22 X dL_act_371 (jS_s ho hn') ?_
  refine v_iload X dL_act_374 rfl ?_
  refine v_ico (v := 2) X dL_act_376 (by decide) ?_
  refine v_newi (N := 2) X rfl (by omega) ⟨by show _ ≤ 1; omega, by show _ ≤ 2; omega⟩ dL_act_377 ?_
  intro ad3 a3
  rw [← a3 0 (by omega), ← a3 54 (by omega), ← a3 55 (by omega), ← a3 (97 + h) (by omega), ← a3 (56 + t) (by omega), ← jW_ad (ad' := ad3) (S := S) (T := S) (fun k hk => a3 k (by omega))]
  refine v_dup X dL_act_379 rfl ?_
  refine v_ico (v := 0) X dL_act_380 (by decide) ?_
  refine v_iload2 X dL_act_381 rfl ?_
  refine v_ico (v := 4) X dL_act_382 (by decide) ?_
  refine v_ishr X dL_act_383 ?_
  refine v_bip (v := 21) X dL_act_384 (by decide) ?_
  refine v_below X dL_act_386 (N := 21) rfl (by omega) (by omega) (Nat.le_of_ble_eq_true rfl) ⟨(Nat.le_of_ble_eq_true rfl), (Nat.le_of_ble_eq_true rfl), (by first | (show _ ≤ 1; omega) | (show _ ≤ 2; omega)), (by first | (show _ ≤ 1; omega) | (show _ ≤ 2; omega))⟩ ?_
  generalize hb1 : bel (x >>> (4 &&& 31)) 21 = b1
  have ir : IN (nI b1) 0 20 := IN_0 (b := 20) (by have := bel_lt (x >>> (4 &&& 31)) (N := 21) (by omega); omega) (by omega)
  generalize nI b1 = r at ir
  refine v_iast X dL_act_389 ⟨by omega, va_up_self _ _ _⟩ rfl (by decide) (by decide) ?_
  refine vV.gg (va_up_up _ _ _ _) ?_
  refine v_dup X dL_act_390 rfl ?_
  refine v_ico (v := 1) X dL_act_391 (by decide) ?_
  refine v_iload2 X dL_act_392 rfl ?_
  refine v_ico (v := 2) X dL_act_393 (by decide) ?_
  refine v_ishr X dL_act_394 ?_
  refine v_ico (v := 4) X dL_act_395 (by decide) ?_
  refine v_below X dL_act_396 (N := 4) rfl (by omega) (by omega) (Nat.le_of_ble_eq_true rfl) ⟨(Nat.le_of_ble_eq_true rfl), (Nat.le_of_ble_eq_true rfl), (by first | (show _ ≤ 1; omega) | (show _ ≤ 2; omega)), (by first | (show _ ≤ 1; omega) | (show _ ≤ 2; omega))⟩ ?_
  generalize hb2 : bel (x >>> (2 &&& 31)) 4 = b2
  have ie : IN (nI b2) 0 3 := IN_0 (b := 3) (by have := bel_lt (x >>> (2 &&& 31)) (N := 4) (by omega); omega) (by omega)
  generalize nI b2 = e1 at ie
  refine v_iast X dL_act_399 ⟨by omega, va_up_self _ _ _⟩ rfl (by decide) (by decide) ?_
  refine vV.gg (va_up_up _ _ _ _) ?_
  refine v_aastA (j := t) (M := 2) X dL_act_400 ((jS_w ho hn2).ne (by omega)) ⟨by omega, va_up_self _ _ _⟩ rfl (by omega) (by omega) ?_
  refine v_wst (n := n) (t := t) hn' ho.1 ho.2.1 ht ?_
  have h4o : ∀ j, j < n → j ≠ 56 + t → (fun k => ad3 (swp (56 + t) n k)) j = ad3 j := fun j hj hj2 => by
    show ad3 (swp (56 + t) n j) = ad3 j
    rw [swp_o hj2 (by omega)]
  have h4n : (fun k => ad3 (swp (56 + t) n k)) n = ad3 (56 + t) := by
    show ad3 (swp (56 + t) n n) = ad3 (56 + t)
    rw [swp_n (by omega)]
  generalize (fun k => ad3 (swp (56 + t) n k)) = ad4 at h4o h4n
  refine vV.gg (jW_up ho hn') ?_
  rw [← h4o 0 (by omega) (by omega), ← h4o 54 (by omega) (by omega), ← h4o (97 + h) (by omega) (by omega), ← h4n]
  have hB2 : BJ cy ad4 S ra le (va_up g0 n (iA cy 2 (wr ra le t))) := (hB.adr (fun j hj => (h4o j (by omega) (by omega)).trans (a3 j (by omega)))).up (by omega)
  refine v_aload0 X dL_act_401 rfl ?_
  refine v_iload X dL_act_402 rfl ?_
  refine v_aload1 X dL_act_404 rfl ?_
  refine gf_L_22 X dL_act_405 (jS_s ho hn2) ?_
  refine v_iload X dL_act_408 rfl ?_
  refine v_aaldR X dL_act_410 (jS_w ho hn2) rfl ht (by omega) ?_
  refine v_ico (v := 0) X dL_act_411 (by decide) ?_
  refine v_iald X dL_act_412 (jS_wr ho hn2 ht) rfl (by decide) (by decide) ?_
  refine vV.top (w := .int r) (congrArg Value.int (upd_s ra t r)) ?_
  refine v_aload1 X dL_act_413 rfl ?_
  refine gf_L_22 X dL_act_414 (jS_s ho hn2) ?_
  refine v_iload X dL_act_417 rfl ?_
  refine v_aaldR X dL_act_419 (jS_w ho hn2) rfl ht (by omega) ?_
  refine v_ico (v := 1) X dL_act_420 (by decide) ?_
  refine v_iald X dL_act_421 (jS_wr ho hn2 ht) rfl (by decide) (by decide) ?_
  refine vV.top (w := .int e1) (congrArg Value.int (upd_s le t e1)) ?_
  refine cd_L_26 X dL_act_422 (c_setWeather l (hB2.R (by omega)) (hB2.W (by omega)) ht (IN_0 (b := 27) (by omega) (by omega)) ir ie) (jS_r hB2 (by omega)) rfl (Nat.le_of_ble_eq_true rfl) ⟨(Nat.le_of_ble_eq_true rfl), (Nat.le_of_ble_eq_true rfl), (by first | (show _ ≤ 1; omega) | (show _ ≤ 2; omega)), (by first | (show _ ≤ 1; omega) | (show _ ≤ 2; omega))⟩ ?_
  refine vV.gg (jW_w) ?_
  generalize hG : va_up (va_up (va_up g0 n (iA cy 2 (wr ra le t))) 2 (.inl (cy 0, 28, .inl (upd ra t r)))) 3 (.inl (cy 0, 28, .inl (upd le t e1))) = g1
  have hB3 : BJ cy ad4 S (upd ra t r) (upd le t e1) g1 := by
    rw [← hG]
    exact hB2.w
  have hrow : vAt (n + 1) (jW cy ad4 S S (upd ra t r) (upd le t e1) g1) n (iA cy 2 (wr ra le t)) := ⟨by omega, by rw [jW_n ho hn', ← hG, va_up_ne _ _ (by omega), va_up_ne _ _ (by omega), va_up_self]⟩
  refine v_bip (v := 10) X dL_act_425 (by decide) ?_
  refine v_aload X dL_act_427 rfl ?_
  refine v_ico (v := 0) X dL_act_429 (by decide) ?_
  refine v_iald X dL_act_430 hrow rfl (by decide) (by decide) ?_
  refine v_imul X dL_act_431 ?_
  refine v_aload X dL_act_432 rfl ?_
  refine v_ico (v := 1) X dL_act_434 (by decide) ?_
  refine v_iald X dL_act_435 hrow rfl (by decide) (by decide) ?_
  refine v_iadd X dL_act_436 ?_
  refine v_icmp_ne (tgt := 444) X dL_act_437 (by decide) (fun hc => absurd rfl hc) (fun _ => ?_)
  refine v_ico (v := 1) X dL_act_440 (by decide) ?_
  refine v_goto (tgt := 445) X dL_act_441 (by decide) ?_
  refine vV.cut (n' := n) (ad' := ad4) (g' := jW cy ad4 S S (upd ra t r) (upd le t e1) g1) (by omega) (fun _ _ => rfl) (fun k hk => rfl) ?_
  rw [← hQ]
  exact (v_zret X hr hlk dL_act_445 rfl ⟨rfl, rfl, fun k hk hk2 => (h4o k hk (by omega)).trans (a3 k hk), S, upd ra t r, upd le t e1, g1, rfl, rfl, ⟨ho, hdb, wok_set hwk ir ie, hd, hB3⟩, fun _ _ => rfl⟩).wd (by show _ ≤ 1; omega) (by show _ ≤ 2; omega)
end AD
set_option maxRecDepth 100000 in
set_option maxHeartbeats 4000000 in
theorem c_L_act (l : Launch) {z0 n : Nat} {D : va_G} {cy : Nat → ClassId} {ad : Nat → Nat} {S : tS} {ra le : Nat → Int32} {g0 : Nat → va_E} {d : Nat} {x : Int32} (hn : n = 97 + sN S + sP S) (hI : IJ cy ad S ra le g0 d) (hN : 1 ≤ sN S) : CtG l yL_act cL_act 14 (some FieldType.boolean) { frames := 14, cells := 1, slots := 2, locals := 300 } z0 D cy n ad (jW cy ad S S ra le g0) [.ref (ad 0), .ref (ad 54), .int x] (PA cy n ad S d) 1 2 := by
  refine ct_of (by decide +kernel) 11 [some (.ref (ad 0)), some (.ref (ad 54)), some (.int x), none, none, none, none, none, none, none, none, none, none, none] (Nat.le_of_ble_eq_true rfl) rfl ?_
  intro p e s m below meth c X hr hlk hnm
  generalize ([.ref (ad 0), .ref (ad 54), .int x] : List Value).toArray = A at X ⊢
  have hn' : 97 + sN S + sP S ≤ n := Nat.le_of_eq hn.symm
  generalize hQ : MQ below (QcR z0 D (PA cy n ad S d)) A s 1 2 (fun q => z0 ≤ q) = Q
  refine v_aload1 X dL_act_0 rfl ?_
  refine gf_L_43 X dL_act_1 (jS_s hI.1 hn') ?_
  refine v_alenL X dL_act_4 (jS_h hI.1 hn') ?_
  refine v_istore3 X rfl (Nat.le_of_ble_eq_true rfl) dL_act_5 ?_
  refine v_iload2 X dL_act_6 rfl ?_
  refine v_iload3 X dL_act_7 rfl ?_
  refine v_below X dL_act_8 (N := sN S) rfl (by omega) (by have := hI.1.1; omega) (Nat.le_of_ble_eq_true rfl) ⟨(Nat.le_of_ble_eq_true rfl), (Nat.le_of_ble_eq_true rfl), (by first | (show _ ≤ 1; omega) | (show _ ≤ 2; omega)), (by first | (show _ ≤ 1; omega) | (show _ ≤ 2; omega))⟩ ?_
  generalize hhv : bel x (sN S) = h
  have hh : h < sN S := by rw [← hhv]; exact bel_lt _ (by omega)
  refine v_istore4 X rfl (Nat.le_of_ble_eq_true rfl) dL_act_11 ?_
  refine v_aload1 X dL_act_13 rfl ?_
  refine gf_L_43 X dL_act_14 (jS_s hI.1 hn') ?_
  refine v_iload X dL_act_17 rfl ?_
  refine v_aaldL X dL_act_19 (jS_h hI.1 hn') rfl hh (by have := hI.1.1; omega) ?_
  refine v_astore5 X rfl (Nat.le_of_ble_eq_true rfl) dL_act_20 ?_
  refine v_iload2 X dL_act_22 rfl ?_
  refine v_bip (v := 7) X dL_act_23 (by decide) ?_
  refine v_ishr X dL_act_25 ?_
  refine v_bip (v := 7) X dL_act_26 (by decide) ?_
  refine v_below X dL_act_28 (N := 7) rfl (by omega) (by omega) (Nat.le_of_ble_eq_true rfl) ⟨(Nat.le_of_ble_eq_true rfl), (Nat.le_of_ble_eq_true rfl), (by first | (show _ ≤ 1; omega) | (show _ ≤ 2; omega)), (by first | (show _ ≤ 1; omega) | (show _ ≤ 2; omega))⟩ ?_
  generalize htv : bel (x >>> (7 &&& 31)) 7 = t
  have ht : t < 7 := by rw [← htv]; exact bel_lt _ (by omega)
  rcases t with _ | _ | _ | _ | _ | _ | _ | t
  · refine v_tabIn (off := 37) (tgt := 68) X dL_act_31 (by decide) (by decide) (by decide) (by decide) ?_
    exact v_a0 (l := l) X hr hlk hQ hn hI hh
  · refine v_tabIn (off := 37) (tgt := 68) X dL_act_31 (by decide) (by decide) (by decide) (by decide) ?_
    exact v_a0 (l := l) X hr hlk hQ hn hI hh
  · refine v_tabIn (off := 86) (tgt := 117) X dL_act_31 (by decide) (by decide) (by decide) (by decide) ?_
    exact v_a2 (l := l) X hr hlk hQ hn hI hh
  · refine v_tabIn (off := 116) (tgt := 147) X dL_act_31 (by decide) (by decide) (by decide) (by decide) ?_
    exact v_a3 (l := l) X hr hlk hQ hn hI hh
  · refine v_tabIn (off := 210) (tgt := 241) X dL_act_31 (by decide) (by decide) (by decide) (by decide) ?_
    exact v_a4 (l := l) X hr hlk hQ hn hI hh
  · refine v_tabIn (off := 278) (tgt := 309) X dL_act_31 (by decide) (by decide) (by decide) (by decide) ?_
    exact v_a5 (l := l) X hr hlk hQ hn hI hh
  · refine v_tabOut (tgt := 351) X dL_act_31 (by decide) (by decide) ?_
    exact v_a6 (l := l) X hr hlk hQ hn hI hh
  · omega
