/-! the law: what was before the day, and the day -/
/-- speaks of places from n on, below m -/
def loc (n m : Nat) (Cr : (Nat → Nat) → (Nat → va_E) → Prop) : Prop := ∀ ad ad' g g', (∀ j, j < m → ad' j = ad j) → (∀ k, n ≤ k → k < m → g' k = g k) → Cr ad g → Cr ad' g'
section LB
variable {l : Launch} {p : Program} {e : Env} {s : State} {m : MethodId} {A : Array Value} {below : List Frame} {meth : Method} {c : Code} {Q : State → Prop} {z0 n cells slots t : Nat} {D : va_G} {cy : Nat → ClassId} {ad : Nat → Nat} {S : tS} {ra le : Nat → Int32} {g0 : Nat → va_E} {x : Int32}
set_option maxRecDepth 100000 in
set_option maxHeartbeats 4000000 in
/-- what went through each pipe -/
theorem v_l3 (X : vCx p s m A c cL_law RL 31 z0 D cy) (ho : ok S) (hP8 : sP S ≤ 8) {k6 M : Nat} (hn : n = 97 + sN S + sP S) (h6 : k6 < M) (hM : n ≤ M) {Cr : (Nat → Nat) → (Nat → va_E) → Prop} (hL : loc n M Cr) (hB : BJ cy ad S ra le g0) (hCr : Cr ad g0) (hc : cells + 1 ≤ 600104) (hs : slots + 8 ≤ 7301314)
    (kk : ∀ (ad' : Nat → Nat) (g' : Nat → va_E), BJ cy ad' S ra le g' → Cr ad' g' → rowp cy M (sP S) g' (sP S) (fun p => sQ S p 4) → vV p l e room_1 s m A below meth c 31 z0 D (cells + 1) (slots + 8) Q (M + 1) ad' (jW cy ad' S S ra le g') 167 [some (.ref (cy 9)), some (.ref (ad' 0)), some (.ref (ad' 54)), some (.int (nI (sN S))), some (.int (nI t)), some (.int x), some (.ref (ad' k6)), some (.ref (ad' M)), none, none, none, none, none, none, none, none, none, none, none, none, none, none, none, none, none, none, none, none, none, none, none] []) :
    vV p l e room_1 s m A below meth c 31 z0 D cells slots Q M ad (jW cy ad S S ra le g0) 129 [some (.ref (cy 9)), some (.ref (ad 0)), some (.ref (ad 54)), some (.int (nI (sN S))), some (.int (nI t)), some (.int x), some (.ref (ad k6)), none, none, none, none, none, none, none, none, none, none, none, none, none, none, none, none, none, none, none, none, none, none, none, none] [] := by
  refine v_aload2 X dL_law_129 rfl ?_
  refine gf_L_81 X dL_law_130 (jS_s ho (by omega)) ?_
  refine v_alenA X dL_law_133 (jS_p ho (by omega)) ?_
  refine v_newi (N := sP S) X rfl (by omega) ⟨by show _ ≤ 600104; omega, by show _ ≤ 7301314; omega⟩ dL_law_134 ?_
  intro ad1 a1
  rw [← a1 0 (by omega), ← a1 54 (by omega), ← a1 k6 (by omega), ← jW_ad (ad' := ad1) (S := S) (T := S) (fun k hk => a1 k (by omega))]
  refine vV.gg (jW_up ho (by omega)) ?_
  have hO : ∀ (q i : Nat), q + i = sP S → ∀ g' : Nat → va_E, BJ cy ad1 S ra le g' → Cr ad1 g' → rowp cy M (sP S) g' i (fun p => sQ S p 4) → vV p l e room_1 s m A below meth c 31 z0 D (cells + 1) (slots + sP S) Q (M + 1) ad1 (jW cy ad1 S S ra le g') 141 [some (.ref (cy 9)), some (.ref (ad1 0)), some (.ref (ad1 54)), some (.int (nI (sN S))), some (.int (nI t)), some (.int x), some (.ref (ad1 k6)), some (.ref (ad1 M)), some (.int (nI i)), none, none, none, none, none, none, none, none, none, none, none, none, none, none, none, none, none, none, none, none, none, none] [] := by
    intro q
    induction q with
    | zero =>
      intro i hi g' hB hCr hp
      have : i = sP S := by omega
      subst this
      obtain ⟨f, hf, hf2⟩ := id hp
      refine v_iload X dL_law_141 rfl ?_
      refine v_aload X dL_law_143 rfl ?_
      refine v_alenI X dL_law_145 (jA ho (by omega) (by omega) hf) ?_
      refine v_icmp_ge (tgt := 167) X dL_law_146 (by decide) (fun h5 => ?_) (fun h5 => ?_)
      · exact (vV.le (by exact ⟨rfl, rfl, rfl, rfl, rfl, rfl, rfl, rfl, trivial⟩) (kk ad1 g' hB hCr hp)).wd (by omega) (by omega)
      · exact absurd (Int32.le_refl _) h5
    | succ q ih =>
      intro i hqi g' hB hCr hp
      have hi : i < sP S := by omega
      obtain ⟨f, hf, hf2⟩ := hp
      refine v_iload X dL_law_141 rfl ?_
      refine v_aload X dL_law_143 rfl ?_
      refine v_alenI X dL_law_145 (jA ho (by omega) (by omega) hf) ?_
      refine v_icmp_ge (tgt := 167) X dL_law_146 (by decide) (fun h5 => ?_) (fun h5 => ?_)
      · exact absurd h5 (nIge hi (by omega))
      refine v_aload X dL_law_149 rfl ?_
      refine v_iload X dL_law_151 rfl ?_
      refine v_aload1 X dL_law_153 rfl ?_
      refine v_iload X dL_law_154 rfl ?_
      refine v_ico (v := 4) X dL_law_156 (by decide) ?_
      refine cd_L_106 X dL_law_157 (c_pipe l (j := 4) (hB.R (by omega)) ho hi (by decide) (IN_0 (j := 4) (b := 4) (by decide) (by decide))) (jS_r hB (by omega)) rfl (Nat.le_of_ble_eq_true rfl) ⟨(Nat.le_of_ble_eq_true rfl), (Nat.le_of_ble_eq_true rfl), (by first | (show _ ≤ 600104; omega) | (show _ ≤ 7301314; omega)), (by first | (show _ ≤ 600104; omega) | (show _ ≤ 7301314; omega))⟩ ?_
      refine v_iast X dL_law_160 (jA ho (by omega) (by omega) hf) rfl hi (by omega) ?_
      refine vV.gg (jW_up ho (by omega)) ?_
      refine v_iinc8 (v := nI (i + 1)) X rfl (Nat.le_of_ble_eq_true rfl) dL_law_161 (nI_inc i) ?_
      refine v_goto (tgt := 141) X dL_law_164 (by decide) ?_
      exact ih (i + 1) (by omega) (va_up g' M (iA cy (sP S) (upd f i (sQ S i 4)))) (hB.up (by omega)) (hL _ _ _ _ (fun _ _ => rfl) (fun k _ hk => va_up_ne _ _ (by omega)) hCr) (rowp_st hf2 rfl)
  refine v_astore7 X rfl (Nat.le_of_ble_eq_true rfl) dL_law_136 ?_
  refine v_ico (v := 0) X dL_law_138 (by decide) ?_
  refine v_istore8 X rfl (Nat.le_of_ble_eq_true rfl) dL_law_139 ?_
  exact hO (sP S) 0 (by omega) _ ((hB.adr (fun j hj => a1 j (by omega))).up (by omega)) (hL _ _ _ _ a1 (fun k _ hk => va_up_ne _ _ (by omega)) hCr) ⟨_, va_up_self _ _ _, fun q hq => absurd hq (Nat.not_lt_zero q)⟩
set_option maxRecDepth 100000 in
set_option maxHeartbeats 4000000 in
/-- what houses owe each other -/
theorem v_l4 (X : vCx p s m A c cL_law RL 31 z0 D cy) (ho : ok S) (hN8 : sN S ≤ 8) {k6 k7 M : Nat} (hn : n = 97 + sN S + sP S) (h6 : k6 < M) (h7 : k7 < M) (hM : n ≤ M) {Cr : (Nat → Nat) → (Nat → va_E) → Prop} (hL : loc n M Cr) (hB : BJ cy ad S ra le g0) (hCr : Cr ad g0) (hc : cells + 9 ≤ 600104) (hs : slots + 72 ≤ 7301314)
    (kk : ∀ (ad' : Nat → Nat) (g' : Nat → va_E), BJ cy ad' S ra le g' → Cr ad' g' → g' M = aA cy (sN S) (rf ad' (M + 1) (sN S)) → rows cy (M + 1) (sN S) (sN S) g' (sN S) (fun k j => debtS (nI k) (nI j) S) → vV p l e room_1 s m A below meth c 31 z0 D (cells + 9) (slots + 72) Q (M + 1 + sN S) ad' (jW cy ad' S S ra le g') 221 [some (.ref (cy 9)), some (.ref (ad' 0)), some (.ref (ad' 54)), some (.int (nI (sN S))), some (.int (nI t)), some (.int x), some (.ref (ad' k6)), some (.ref (ad' k7)), some (.ref (ad' M)), none, none, none, none, none, none, none, none, none, none, none, none, none, none, none, none, none, none, none, none, none, none] []) :
    vV p l e room_1 s m A below meth c 31 z0 D cells slots Q M ad (jW cy ad S S ra le g0) 167 [some (.ref (cy 9)), some (.ref (ad 0)), some (.ref (ad 54)), some (.int (nI (sN S))), some (.int (nI t)), some (.int x), some (.ref (ad k6)), some (.ref (ad k7)), none, none, none, none, none, none, none, none, none, none, none, none, none, none, none, none, none, none, none, none, none, none, none] [] := by
  have hNN : sN S * sN S ≤ 8 * 8 := Nat.mul_le_mul hN8 hN8
  refine v_iload3 X dL_law_167 rfl ?_
  refine v_iload3 X dL_law_168 rfl ?_
  refine v_multi (N := sN S) (M := sN S) X rfl rfl (by omega) (by omega) wk_L_102 ⟨by show _ ≤ 600104; omega, by show _ ≤ 7301314; omega⟩ dL_law_169 ?_
  intro ad1 a1
  rw [← a1 0 (by omega), ← a1 54 (by omega), ← a1 k6 (by omega), ← a1 k7 (by omega)]
  refine vV.eqw (ad' := ad1) (g' := jW cy ad1 S S ra le (mnG cy ad1 M (sN S) (sN S) g0)) (fun _ _ => rfl) (fun k _ => mn_jW ho (by omega) a1) ?_
  have hO : ∀ (q i : Nat), q + i = sN S → ∀ g' : Nat → va_E, BJ cy ad1 S ra le g' → Cr ad1 g' → g' M = aA cy (sN S) (rf ad1 (M + 1) (sN S)) → rows cy (M + 1) (sN S) (sN S) g' i (fun k j => debtS (nI k) (nI j) S) → vV p l e room_1 s m A below meth c 31 z0 D (cells + (1 + sN S)) (slots + (sN S + sN S * sN S)) Q (M + 1 + sN S) ad1 (jW cy ad1 S S ra le g') 178 [some (.ref (cy 9)), some (.ref (ad1 0)), some (.ref (ad1 54)), some (.int (nI (sN S))), some (.int (nI t)), some (.int x), some (.ref (ad1 k6)), some (.ref (ad1 k7)), some (.ref (ad1 M)), some (.int (nI i)), none, none, none, none, none, none, none, none, none, none, none, none, none, none, none, none, none, none, none, none, none] [] := by
    intro q
    induction q with
    | zero =>
      intro i hi g' hB hCr hw hr
      have : i = sN S := by omega
      subst this
      refine v_iload X dL_law_178 rfl ?_
      refine v_iload3 X dL_law_180 rfl ?_
      refine v_icmp_ge (tgt := 221) X dL_law_181 (by decide) (fun h5 => ?_) (fun h5 => ?_)
      · exact (vV.le (by exact ⟨rfl, rfl, rfl, rfl, rfl, rfl, rfl, rfl, rfl, trivial⟩) (kk ad1 g' hB hCr hw hr)).wd (by omega) (by omega)
      · exact absurd (Int32.le_refl _) h5
    | succ q ih =>
      intro i hqi g' hB hCr hw hr
      have hi : i < sN S := by omega
      have hI : ∀ (q j : Nat), q + j = sN S → ∀ g' : Nat → va_E, BJ cy ad1 S ra le g' → Cr ad1 g' → g' M = aA cy (sN S) (rf ad1 (M + 1) (sN S)) → rows cy (M + 1) (sN S) (sN S) g' i (fun k j => debtS (nI k) (nI j) S) → rowp cy (M + 1 + i) (sN S) g' j (fun j => debtS (nI i) (nI j) S) → vV p l e room_1 s m A below meth c 31 z0 D (cells + (1 + sN S)) (slots + (sN S + sN S * sN S)) Q (M + 1 + sN S) ad1 (jW cy ad1 S S ra le g') 187 [some (.ref (cy 9)), some (.ref (ad1 0)), some (.ref (ad1 54)), some (.int (nI (sN S))), some (.int (nI t)), some (.int x), some (.ref (ad1 k6)), some (.ref (ad1 k7)), some (.ref (ad1 M)), some (.int (nI i)), some (.int (nI j)), none, none, none, none, none, none, none, none, none, none, none, none, none, none, none, none, none, none, none, none] [] := by
        intro q
        induction q with
        | zero =>
          intro j hj g' hB hCr hw hr hp
          have : j = sN S := by omega
          subst this
          refine v_iload X dL_law_187 rfl ?_
          refine v_iload3 X dL_law_189 rfl ?_
          refine v_icmp_ge (tgt := 215) X dL_law_190 (by decide) (fun h5 => ?_) (fun h5 => ?_)
          · refine v_iinc9 (v := nI (i + 1)) X rfl (Nat.le_of_ble_eq_true rfl) dL_law_215 (nI_inc i) ?_
            refine v_goto (tgt := 178) X dL_law_218 (by decide) ?_
            exact vV.le (by exact ⟨rfl, rfl, rfl, rfl, rfl, rfl, rfl, rfl, rfl, rfl, trivial⟩) (ih (i + 1) (by omega) g' hB hCr hw (rows_nx hr hp))
          · exact absurd (Int32.le_refl _) h5
        | succ q ih2 =>
          intro j hqj g' hB hCr hw hr hp
          have hj : j < sN S := by omega
          obtain ⟨f, hf, hf2⟩ := hp
          refine v_iload X dL_law_187 rfl ?_
          refine v_iload3 X dL_law_189 rfl ?_
          refine v_icmp_ge (tgt := 215) X dL_law_190 (by decide) (fun h5 => ?_) (fun h5 => ?_)
          · exact absurd h5 (nIge hj (by omega))
          refine v_aload X dL_law_193 rfl ?_
          refine v_iload X dL_law_195 rfl ?_
          refine v_aaldR X dL_law_197 (jA ho (by omega) (by omega) hw) rfl hi (by omega) ?_
          refine v_iload X dL_law_198 rfl ?_
          refine v_aload1 X dL_law_200 rfl ?_
          refine v_iload X dL_law_201 rfl ?_
          refine v_iload X dL_law_203 rfl ?_
          refine cd_L_109 X dL_law_205 (c_owes l (hB.R (by omega)) ho (hasB_1 hi (by omega)) (hasB_1 hj (by omega))) (jS_r hB (by omega)) rfl (Nat.le_of_ble_eq_true rfl) ⟨(Nat.le_of_ble_eq_true rfl), (Nat.le_of_ble_eq_true rfl), (by first | (show _ ≤ 600104; omega) | (show _ ≤ 7301314; omega)), (by first | (show _ ≤ 600104; omega) | (show _ ≤ 7301314; omega))⟩ ?_
          refine v_iast X dL_law_208 (jA ho (by omega) (by omega) hf) rfl hj (by omega) ?_
          refine vV.gg (jW_up ho (by omega)) ?_
          refine v_iinc10 (v := nI (j + 1)) X rfl (Nat.le_of_ble_eq_true rfl) dL_law_209 (nI_inc j) ?_
          refine v_goto (tgt := 187) X dL_law_212 (by decide) ?_
          exact ih2 (j + 1) (by omega) (va_up g' (M + 1 + i) (iA cy (sN S) (upd f j (debtS (nI i) (nI j) S)))) (hB.up (by omega)) (hL _ _ _ _ (fun _ _ => rfl) (fun k _ hk => va_up_ne _ _ (by omega)) hCr) ((va_up_ne _ _ (by omega)).trans hw) (rows_st hr) (rowp_st hf2 rfl)
      refine v_iload X dL_law_178 rfl ?_
      refine v_iload3 X dL_law_180 rfl ?_
      refine v_icmp_ge (tgt := 221) X dL_law_181 (by decide) (fun h5 => ?_) (fun h5 => ?_)
      · exact absurd h5 (nIge hi (by omega))
      refine v_ico (v := 0) X dL_law_184 (by decide) ?_
      refine v_istore10 X rfl (Nat.le_of_ble_eq_true rfl) dL_law_185 ?_
      exact hI (sN S) 0 (by omega) g' hB hCr hw hr (rowp_0 hr hi)
  refine v_astore8 X rfl (Nat.le_of_ble_eq_true rfl) dL_law_173 ?_
  refine v_ico (v := 0) X dL_law_175 (by decide) ?_
  refine v_istore9 X rfl (Nat.le_of_ble_eq_true rfl) dL_law_176 ?_
  exact hO (sN S) 0 (by omega) _ ((hB.adr (fun j hj => a1 j (by omega))).eq (fun k hk => mnG_lo (by omega))) (hL _ _ _ _ a1 (fun k _ hk => mnG_lo hk) hCr) mnG_n (fun k hk => ⟨_, mnG_hi (by omega), fun q => absurd q (Nat.not_lt_zero _)⟩)
end LB
/-! looking ahead, in the law -/
section LC
variable {p : Program} {l : Launch} {e : Env} {s : State} {m : MethodId} {args : Array Value} {below : List Frame} {meth : Method} {c : Code} {cells slots : Nat} {Q : State → Prop}
variable {cc : ByteArray} {nL z0 n pc : Nat} {D : va_G} {cy : Nat → ClassId} {ad : Nat → Nat} {L : List (Option Value)} {st : List Value} {S : tS} {ra le : Nat → Int32} {g0 : Nat → va_E} {d h : Nat}
theorem v_lasts (X : vCx p s m args c cc RL nL z0 D cy) (dd : decode cc pc = .ok (.invokevirtual 112, 3)) (ho : ok S) (hwk : wok ra le) (hd : sM S 0 = nI d) (hd9 : d ≤ 1000) (hB : BJ cy ad S ra le g0) (hn : 97 + sN S + sP S ≤ n) (hh : h < sN S) (hst : (st.map fun v => v.category).sum ≤ 8) (hc : cells ≤ 600104 ∧ slots ≤ 7301314) (kk : ∀ g1 : Nat → va_E, BJ cy ad S ra le g1 → (∀ k, 97 + sN S + sP S ≤ k → g1 k = g0 k) → vV p l e room_1 s m args below meth c nL z0 D cells slots Q n ad (jW cy ad S S ra le g1) (pc + 3) L (.int (dtt ra le h (sH S h 9) 200 1 S).1 :: st)) : vV p l e room_1 s m args below meth c nL z0 D cells slots Q n ad (jW cy ad S S ra le g0) pc L (.int (nI h) :: .ref (ad 0) :: st) := by
  refine cl_L_112 X dd (c_lasts l (hB.R (by omega)) (hB.V (by omega)) ho hh (hB.W (by omega)) hwk hd (by omega)) (jS_r hB (by omega)) rfl hst ⟨rfl, rfl, Nat.le_of_ble_eq_true rfl, Nat.le_of_ble_eq_true rfl, hc.1, hc.2⟩ ?_
  rintro _ _ _ _ ⟨rfl, rfl, rfl, g1, hT, rfl⟩
  obtain ⟨e1, e2⟩ := jW_t hB (by omega) hT
  rw [e1]
  exact kk g1 e2 (fun k hk => (hT.2 k (Or.inr (by omega))).trans (gS_out (Or.inr hk)))
theorem v_fore (X : vCx p s m args c cc RL nL z0 D cy) (dd : decode cc pc = .ok (.invokevirtual 115, 3)) (ho : ok S) (hwk : wok ra le) (hd : sM S 0 = nI d) (hd9 : d ≤ 1000) (hB : BJ cy ad S ra le g0) (hn : 97 + sN S + sP S ≤ n) {j : Nat} {x y : Int32} (hx : x = nI 1) (hy : y = nI j) (hj : j < 3) (hst : (st.map fun v => v.category).sum ≤ 8) (hc : cells ≤ 600104 ∧ slots ≤ 7301314) (kk : ∀ g1 : Nat → va_E, BJ cy ad S ra le g1 → (∀ k, 97 + sN S + sP S ≤ k → g1 k = g0 k) → vV p l e room_1 s m args below meth c nL z0 D cells slots Q n ad (jW cy ad S S ra le g1) (pc + 3) L (.int (foreA ra le 1 S j) :: st)) : vV p l e room_1 s m args below meth c nL z0 D cells slots Q n ad (jW cy ad S S ra le g0) pc L (.int y :: .int x :: .ref (ad 0) :: st) := by
  subst hx hy
  refine cl_L_115 X dd (c_foresee l (k := 1) (hB.R (by omega)) (hB.V (by omega)) ho (hB.W (by omega)) hwk hd (by omega) ⟨by decide, by decide⟩ hj (IN_0 (b := 2) (by omega) (by omega))) (jS_r hB (by omega)) rfl hst ⟨rfl, rfl, Nat.le_of_ble_eq_true rfl, Nat.le_of_ble_eq_true rfl, hc.1, hc.2⟩ ?_
  rintro _ _ _ _ ⟨rfl, rfl, rfl, g1, hT, rfl⟩
  obtain ⟨e1, e2⟩ := jW_t hB (by omega) hT
  rw [e1]
  exact kk g1 e2 (fun k hk => (hT.2 k (Or.inr (by omega))).trans (gS_out (Or.inr hk)))
end LC
