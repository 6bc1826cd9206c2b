/-! the law: looking ahead, the numbers, the day -/
section LD
variable {l : Launch} {p : Program} {e : Env} {s : State} {m : MethodId} {A : Array Value} {below : List Frame} {meth : Method} {c : Code} {Q : State → Prop} {z0 n cells slots t d : Nat} {D : va_G} {cy : Nat → ClassId} {ad : Nat → Nat} {S : tS} {ra le : Nat → Int32} {g0 : Nat → va_E} {x : Int32}
set_option maxRecDepth 100000 in
set_option maxHeartbeats 4000000 in
theorem v_l5 (X : vCx p s m A c cL_law RL 31 z0 D cy) (ho : ok S) (hwk : wok ra le) (hd : sM S 0 = nI d) (hd9 : d ≤ 1000) (hN1 : 1 ≤ sN S) {k6 k7 k8 M : Nat} (hn : n = 97 + sN S + sP S) (h6 : k6 < M) (h7 : k7 < M) (h8 : k8 < M) (hM : n ≤ M) {Cr : (Nat → Nat) → (Nat → va_E) → Prop} (hL : loc n M Cr) (hB : BJ cy ad S ra le g0) (hCr : Cr ad g0) (hc : cells + 1 ≤ 600104) (hs : slots + 11 ≤ 7301314)
    (kk : ∀ (ad' : Nat → Nat) (g' : Nat → va_E) (h : Nat), h < sN S → BJ cy ad' S ra le g' → Cr ad' g' → rowp cy M 11 g' 11 (totalS S) → vV p l e room_1 s m A below meth c 31 z0 D (cells + 1) (slots + 11) Q (M + 1) ad' (jW cy ad' S S ra le g') 294 [some (.ref (cy 9)), some (.ref (ad' 0)), some (.ref (ad' 54)), some (.int (nI (sN S))), some (.int (nI t)), none, some (.ref (ad' k6)), some (.ref (ad' k7)), some (.ref (ad' k8)), some (.int (nI h)), some (.int (dtt ra le h (sH S h 9) 200 1 S).1), some (.int (foreA ra le 1 S 0)), some (.int (foreA ra le 1 S 1)), some (.int (foreA ra le 1 S 2)), some (.ref (ad' M)), none, none, none, none, none, none, none, none, none, none, none, none, none, none, none, none] []) :
    vV p l e room_1 s m A below meth c 31 z0 D cells slots Q M ad (jW cy ad S S ra le g0) 221 [some (.ref (cy 9)), some (.ref (ad 0)), some (.ref (ad 54)), some (.int (nI (sN S))), some (.int (nI t)), some (.int x), some (.ref (ad k6)), some (.ref (ad k7)), some (.ref (ad k8)), none, none, none, none, none, none, none, none, none, none, none, none, none, none, none, none, none, none, none, none, none, none] [] := by
  have hN10 := ho.1
  refine v_iload X dL_law_221 rfl ?_
  refine v_iload3 X dL_law_223 rfl ?_
  refine v_below X dL_law_224 (N := sN S) rfl (by omega) (by omega) (Nat.le_of_ble_eq_true rfl) ⟨(Nat.le_of_ble_eq_true rfl), (Nat.le_of_ble_eq_true rfl), (by first | (show _ ≤ 600104; omega) | (show _ ≤ 7301314; omega)), (by first | (show _ ≤ 600104; omega) | (show _ ≤ 7301314; omega))⟩ ?_
  generalize hhv : bel x (sN S) = h
  have hh : h < sN S := by rw [← hhv]; exact bel_lt _ (by omega)
  refine v_istore9 X rfl (Nat.le_of_ble_eq_true rfl) dL_law_227 ?_
  refine v_aload1 X dL_law_229 rfl ?_
  refine v_iload X dL_law_230 rfl ?_
  refine v_lasts (d := d) X dL_law_232 ho hwk hd hd9 hB (by omega) hh (Nat.le_of_ble_eq_true rfl) ⟨by omega, by omega⟩ (fun g1 hB hg1 => ?_)
  have hCr := hL ad ad _ g1 (fun _ _ => rfl) (fun k h1 _ => hg1 k (by omega)) hCr
  refine v_istore10 X rfl (Nat.le_of_ble_eq_true rfl) dL_law_235 ?_
  refine v_aload1 X dL_law_237 rfl ?_
  refine v_ico (v := 1) X dL_law_238 (by decide) ?_
  refine v_ico (v := 0) X dL_law_239 (by decide) ?_
  refine v_fore (d := d) (j := 0) X dL_law_240 ho hwk hd hd9 hB (by omega) rfl rfl (by decide) (Nat.le_of_ble_eq_true rfl) ⟨by omega, by omega⟩ (fun g2 hB hg2 => ?_)
  have hCr := hL ad ad _ g2 (fun _ _ => rfl) (fun k h1 _ => hg2 k (by omega)) hCr
  refine v_istore11 X rfl (Nat.le_of_ble_eq_true rfl) dL_law_243 ?_
  refine v_aload1 X dL_law_245 rfl ?_
  refine v_ico (v := 1) X dL_law_246 (by decide) ?_
  refine v_ico (v := 1) X dL_law_247 (by decide) ?_
  refine v_fore (d := d) (j := 1) X dL_law_248 ho hwk hd hd9 hB (by omega) rfl rfl (by decide) (Nat.le_of_ble_eq_true rfl) ⟨by omega, by omega⟩ (fun g3 hB hg3 => ?_)
  have hCr := hL ad ad _ g3 (fun _ _ => rfl) (fun k h1 _ => hg3 k (by omega)) hCr
  refine v_istore12 X rfl (Nat.le_of_ble_eq_true rfl) dL_law_251 ?_
  refine v_aload1 X dL_law_253 rfl ?_
  refine v_ico (v := 1) X dL_law_254 (by decide) ?_
  refine v_ico (v := 2) X dL_law_255 (by decide) ?_
  refine v_fore (d := d) (j := 2) X dL_law_256 ho hwk hd hd9 hB (by omega) rfl rfl (by decide) (Nat.le_of_ble_eq_true rfl) ⟨by omega, by omega⟩ (fun g4 hB hg4 => ?_)
  have hCr := hL ad ad _ g4 (fun _ _ => rfl) (fun k h1 _ => hg4 k (by omega)) hCr
  refine v_istore13 X rfl (Nat.le_of_ble_eq_true rfl) dL_law_259 ?_
  refine v_bip (v := 11) X dL_law_261 (by decide) ?_
  refine v_newi (N := 11) X rfl (by omega) ⟨by show _ ≤ 600104; omega, by show _ ≤ 7301314; omega⟩ dL_law_263 ?_
  intro ad1 a1
  rw [← a1 0 (by omega), ← a1 54 (by omega), ← a1 k6 (by omega), ← a1 k7 (by omega), ← a1 k8 (by omega), ← jW_ad (ad' := ad1) (S := S) (T := S) (fun k hk => a1 k (by omega))]
  refine vV.gg (jW_up ho (by omega)) ?_
  have hO : ∀ (q i : Nat), q + i = 11 → ∀ g' : Nat → va_E, BJ cy ad1 S ra le g' → Cr ad1 g' → rowp cy M 11 g' i (totalS S) → vV p l e room_1 s m A below meth c 31 z0 D (cells + 1) (slots + 11) Q (M + 1) ad1 (jW cy ad1 S S ra le g') 270 [some (.ref (cy 9)), some (.ref (ad1 0)), some (.ref (ad1 54)), some (.int (nI (sN S))), some (.int (nI t)), some (.int x), some (.ref (ad1 k6)), some (.ref (ad1 k7)), some (.ref (ad1 k8)), some (.int (nI h)), some (.int (dtt ra le h (sH S h 9) 200 1 S).1), some (.int (foreA ra le 1 S 0)), some (.int (foreA ra le 1 S 1)), some (.int (foreA ra le 1 S 2)), some (.ref (ad1 M)), some (.int (nI i)), none, none, none, none, none, none, none, none, none, none, none, none, none, none, none] [] := by
    intro q
    induction q with
    | zero =>
      intro i hi g' hB hCr hp
      have : i = 11 := by omega
      subst this
      refine v_iload X dL_law_270 rfl ?_
      refine v_bip (v := 11) X dL_law_272 (by decide) ?_
      refine v_icmp_ge (tgt := 294) X dL_law_274 (by decide) (fun _ => ?_) (fun hc => absurd (Int32.le_refl _) hc)
      exact vV.le (by exact ⟨rfl, rfl, rfl, rfl, rfl, rfl, rfl, rfl, rfl, rfl, rfl, rfl, rfl, rfl, trivial⟩) (kk ad1 g' h hh hB hCr hp)
    | succ q ih =>
      intro i hqi g' hB hCr hp
      have hi : i < 11 := by omega
      obtain ⟨f, hf, hf2⟩ := hp
      refine v_iload X dL_law_270 rfl ?_
      refine v_bip (v := 11) X dL_law_272 (by decide) ?_
      refine v_icmp_ge (tgt := 294) X dL_law_274 (by decide) (fun h5 => ?_) (fun h5 => ?_)
      · exact absurd h5 (nIge (N := 11) hi (by omega))
      refine v_aload X dL_law_277 rfl ?_
      refine v_iload X dL_law_279 rfl ?_
      refine v_aload1 X dL_law_281 rfl ?_
      refine v_iload X dL_law_282 rfl ?_
      refine cd_L_118 X dL_law_284 (c_count l (hB.R (by omega)) ho hi (IN_0 (b := 10) (by omega) (by omega))) (jS_r hB (by omega)) rfl (Nat.le_of_ble_eq_true rfl) ⟨(Nat.le_of_ble_eq_true rfl), (Nat.le_of_ble_eq_true rfl), (by first | (show _ ≤ 600104; omega) | (show _ ≤ 7301314; omega)), (by first | (show _ ≤ 600104; omega) | (show _ ≤ 7301314; omega))⟩ ?_
      refine v_iast X dL_law_287 (jA ho (by omega) (by omega) hf) rfl hi (by omega) ?_
      refine vV.gg (jW_up ho (by omega)) ?_
      refine v_iinc15 (v := nI (i + 1)) X rfl (Nat.le_of_ble_eq_true rfl) dL_law_288 (nI_inc i) ?_
      refine v_goto (tgt := 270) X dL_law_291 (by decide) ?_
      exact ih (i + 1) (by omega) (va_up g' M (iA cy 11 (upd f i (totalS S i)))) (hB.up (by omega)) (hL _ _ _ _ (fun _ _ => rfl) (fun k _ hk => va_up_ne _ _ (by omega)) hCr) (rowp_st hf2 rfl)
  refine v_astore14 X rfl (Nat.le_of_ble_eq_true rfl) dL_law_265 ?_
  refine v_ico (v := 0) X dL_law_267 (by decide) ?_
  refine v_istore15 X rfl (Nat.le_of_ble_eq_true rfl) dL_law_268 ?_
  exact hO 11 0 rfl _ ((hB.adr (fun j hj => a1 j (by omega))).up (by omega)) (hL _ _ _ _ a1 (fun k _ hk => va_up_ne _ _ (by omega)) hCr) ⟨_, va_up_self _ _ _, fun q hq => absurd hq (Nat.not_lt_zero q)⟩
theorem j_pass (l : Launch) {T : tS} (ho : ok S) (hn : 97 + sN T + sP T ≤ n) (hoT : ok T) (hwk : wok ra le) (hd : sM T 0 = nI d) (hd2 : d < 2 ^ 31) : CtG l yX6_pass cX6_pass 12 (some FieldType.int) (rmv 12 300) z0 D cy n ad (jW cy ad S T ra le g0) [.ref (ad 54)] (anyI n ad (jW cy ad S (dayS ra le T) ra le g0)) 0 0 := by
  rw [jW_c ho.1 ho.2.1, jW_c ho.1 ho.2.1]
  exact c_X6_pass l hn hoT hwk hd hd2
set_option maxRecDepth 100000 in
set_option maxHeartbeats 4000000 in
theorem v_l6 (X : vCx p s m A c cL_law RL 31 z0 D cy) (ho : ok S) (hwk : wok ra le) (hd : sM S 0 = nI d) (hd9 : d ≤ 1000) {k6 k7 k8 kC M h : Nat} {vL v0 v1 v2 : Int32} (hM : 97 + sN S + sP S ≤ M) (hB : BJ cy ad S ra le g0) (hc : cells ≤ 600104) (hs : slots ≤ 7301314)
    (kk : vV p l e room_1 s m A below meth c 31 z0 D cells slots Q M ad (jW cy ad (dayS ra le S) (dayS ra le S) ra le g0) 320 [some (.ref (cy 9)), some (.ref (ad 0)), some (.ref (ad 54)), some (.int (nI (sN S))), some (.int (nI t)), none, some (.ref (ad k6)), some (.ref (ad k7)), some (.ref (ad k8)), some (.int (nI h)), some (.int vL), some (.int v0), some (.int v1), some (.int v2), some (.ref (ad kC)), some (.ref (ad (56 + dayN S))), some (.int (sumS 7 (dayS ra le S) - sumS 7 S)), none, none, none, none, none, none, none, none, none, none, none, none, none, none] []) :
    vV p l e room_1 s m A below meth c 31 z0 D cells slots Q M ad (jW cy ad S S ra le g0) 294 [some (.ref (cy 9)), some (.ref (ad 0)), some (.ref (ad 54)), some (.int (nI (sN S))), some (.int (nI t)), none, some (.ref (ad k6)), some (.ref (ad k7)), some (.ref (ad k8)), some (.int (nI h)), some (.int vL), some (.int v0), some (.int v1), some (.int v2), some (.ref (ad kC)), none, none, none, none, none, none, none, none, none, none, none, none, none, none, none, none] [] := by
  have hdn : dayN S = d % 28 := by unfold dayN; rw [hd, nI_clamp (by omega)]
  refine v_aload2 X dL_law_294 rfl ?_
  refine gf_L_22 X dL_law_295 (jS_s ho (by omega)) ?_
  refine v_aload2 X dL_law_298 rfl ?_
  refine gf_L_121 X dL_law_299 (jS_s ho (by omega)) ?_
  refine vV.top (congrArg Value.int hd) ?_
  refine v_bip (v := 28) X dL_law_302 (by decide) ?_
  refine v_irem X dL_law_304 (by decide) ?_
  rw [rem28 (by omega), ← hdn]
  refine v_aaldR X dL_law_305 (jS_w ho (by omega)) rfl (dayN_lt S) (by decide) ?_
  refine v_astore15 X rfl (Nat.le_of_ble_eq_true rfl) dL_law_306 ?_
  refine v_aload1 X dL_law_308 rfl ?_
  refine v_ico (v := 1) X dL_law_309 (by decide) ?_
  refine cd_L_124 X dL_law_310 (c_pass l (hB.R (by omega)) ho (hB.W (by omega)) hwk hd (by omega) ⟨by decide, by decide⟩ (k := 1)) (jS_r hB (by omega)) rfl (Nat.le_of_ble_eq_true rfl) ⟨(Nat.le_of_ble_eq_true rfl), (Nat.le_of_ble_eq_true rfl), (by first | (show _ ≤ 600104; omega) | (show _ ≤ 7301314; omega)), (by first | (show _ ≤ 600104; omega) | (show _ ≤ 7301314; omega))⟩ ?_
  show vV p l e room_1 s m A below meth c 31 z0 D cells slots Q M ad (jW cy ad (dayS ra le S) S ra le g0) 313 [some (.ref (cy 9)), some (.ref (ad 0)), some (.ref (ad 54)), some (.int (nI (sN S))), some (.int (nI t)), none, some (.ref (ad k6)), some (.ref (ad k7)), some (.ref (ad k8)), some (.int (nI h)), some (.int vL), some (.int v0), some (.int v1), some (.int v2), some (.ref (ad kC)), some (.ref (ad (56 + dayN S))), none, none, none, none, none, none, none, none, none, none, none, none, none, none, none] [.int (sumS 7 (dayS ra le S) - sumS 7 S)]
  refine v_istore16 X rfl (Nat.le_of_ble_eq_true rfl) dL_law_313 ?_
  refine v_aload2 X dL_law_315 rfl ?_
  refine cl_L_127 X dL_law_316 (j_pass l (d := d) (dayS_ok hwk ho).1 hM ho hwk hd (by omega)) (jS_s (dayS_ok hwk ho).1 hM) rfl (Nat.le_of_ble_eq_true rfl) ⟨rfl, rfl, Nat.le_of_ble_eq_true rfl, Nat.le_of_ble_eq_true rfl, by show _ ≤ 600104; omega, by show _ ≤ 7301314; omega⟩ ?_
  rintro _ _ _ _ ⟨⟨y, rfl⟩, rfl, rfl, rfl⟩
  refine vV.eqn (pc' := 319) (st' := [.int y]) ?_ rfl rfl rfl
  refine v_pop X dL_law_319 rfl ?_
  exact kk
end LD
