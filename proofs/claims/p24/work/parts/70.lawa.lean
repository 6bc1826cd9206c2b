/-! the law: what was before the day is kept in arrays -/
section JL
variable {cy : Nat → ClassId} {ad : Nat → Nat} {n : Nat} {S T : tS} {ra le : Nat → Int32} {g0 : Nat → va_E}
theorem jW_low {ad' : Nat → Nat} {g1 : Nat → va_E} {k : Nat} (hk : k < 97 + sN T + sP T) (hg : ∀ j, j < 54 → g1 j = g0 j) (ha : ∀ j, j < 97 + sN T + sP T → ad' j = ad j) : jW cy ad' S T ra le g1 k = jW cy ad S T ra le g0 k := by
  have e : gS cy ad' T ra le g1 k = gS cy ad T ra le g0 k := by
    rw [gS_ad (fun j _ hj => ha j hj)]
    exact gS_ext rfl rfl (fun q => hg k (by rcases q with q | q <;> omega)) (fun _ => rfl) (fun _ => rfl) (fun _ _ => rfl) (fun _ => rfl) (fun _ _ => rfl) (fun _ => rfl) (fun _ => rfl) (fun _ _ => rfl) (fun _ _ => rfl)
  unfold jW
  rw [gV_ad (ha 1 (by omega)) (fun j h1 h2 => ha j (by omega))]
  unfold gV
  rw [e]
theorem BJ.eq {g1 : Nat → va_E} (h : BJ cy ad S ra le g0) (q : ∀ k, k < 54 → g1 k = g0 k) : BJ cy ad S ra le g1 := by
  obtain ⟨h1, h2, ⟨v0, ⟨S1, v1⟩, v2, v3, v4, v5⟩, h4, h5⟩ := h
  refine ⟨⟨h1.1, h1.2.1, (q 0 (by omega)).trans h1.2.2⟩, ⟨⟨by omega, (q 1 (by omega)).trans h2.1.2⟩, ⟨by omega, (q 2 (by omega)).trans h2.2.1.2⟩, ⟨by omega, (q 3 (by omega)).trans h2.2.2.2⟩⟩, ⟨v0, ⟨S1, (q _ (by omega)).trans v1⟩, (q _ (by omega)).trans v2, (q _ (by omega)).trans v3, fun j hj => ?_, fun j hj => ?_⟩, fun j a b => (q _ (by omega)).trans (h4 j a b), fun j a b => (q _ (by omega)).trans (h5 j a b)⟩
  · obtain ⟨f, hf⟩ := v4 j hj
    exact ⟨f, (q _ (by omega)).trans hf⟩
  · obtain ⟨f, hf⟩ := v5 j hj
    exact ⟨f, (q _ (by omega)).trans hf⟩
/-- behind new int[N][M] -/
theorem mn_jW {ad' : Nat → Nat} {N M m : Nat} (ho : ok S) (hm : 97 + sN T + sP T ≤ m) (ha : ∀ j, j < m → ad' j = ad j) {k : Nat} : jW cy ad' S T ra le (mnG cy ad' m N M g0) k = mnG cy ad' m N M (jW cy ad S T ra le g0) k := by
  by_cases h : k < m
  · rw [mnG_lo h]
    by_cases h2 : k < 97 + sN T + sP T
    · exact jW_low h2 (fun j hj => mnG_lo (by omega)) (fun j hj => ha j (by omega))
    · rw [jW_n ho (by omega), mnG_lo h, jW_n ho (by omega)]
  · rw [jW_n ho (by omega)]
    unfold mnG
    rw [if_neg h, if_neg h]
theorem jA (ho : ok S) {m k : Nat} {e : va_E} (hk : k < m) (h : 97 + sN T + sP T ≤ k) (hg : g0 k = e) : vAt m (jW cy ad S T ra le g0) k e := ⟨hk, (jW_n ho h).trans hg⟩
end JL
/-- N rows of M, the first i of them as v has them -/
def rows (cy : Nat → ClassId) (n N M : Nat) (g : Nat → va_E) (i : Nat) (v : Nat → Nat → Int32) : Prop := ∀ k, k < N → ∃ f, g (n + k) = iA cy M f ∧ (k < i → ∀ j, j < M → f j = v k j)
def rowp (cy : Nat → ClassId) (n M : Nat) (g : Nat → va_E) (j : Nat) (v : Nat → Int32) : Prop := ∃ f, g n = iA cy M f ∧ ∀ q, q < j → f q = v q
theorem rows_st {cy : Nat → ClassId} {n N M i : Nat} {g : Nat → va_E} {v : Nat → Nat → Int32} {f : Nat → Int32} (h : rows cy n N M g i v) : rows cy n N M (va_up g (n + i) (iA cy M f)) i v := fun k hk => by
  by_cases e : k = i
  · subst e
    exact ⟨f, va_up_self _ _ _, fun q => absurd q (Nat.lt_irrefl _)⟩
  · rw [va_up_ne _ _ (by omega)]
    exact h k hk
theorem rowp_st {cy : Nat → ClassId} {n M j : Nat} {g : Nat → va_E} {v : Nat → Int32} {f : Nat → Int32} {x : Int32} (h : ∀ q, q < j → f q = v q) (hx : x = v j) : rowp cy n M (va_up g n (iA cy M (upd f j x))) (j + 1) v := ⟨_, va_up_self _ _ _, fun q hq => by
  by_cases e : q = j
  · subst e; rw [upd_s, hx]
  · rw [upd_n _ _ e]; exact h q (by omega)⟩
theorem rows_nx {cy : Nat → ClassId} {n N M i : Nat} {g : Nat → va_E} {v : Nat → Nat → Int32} (h : rows cy n N M g i v) (hp : rowp cy (n + i) M g M (v i)) : rows cy n N M g (i + 1) v := fun k hk => by
  by_cases e : k = i
  · subst e
    obtain ⟨f, h1, h2⟩ := hp
    exact ⟨f, h1, fun _ => h2⟩
  · obtain ⟨f, h1, h2⟩ := h k hk
    exact ⟨f, h1, fun q => h2 (by omega)⟩
theorem rowp_0 {cy : Nat → ClassId} {n N M i k : Nat} {g : Nat → va_E} {v : Nat → Nat → Int32} {w : Nat → Int32} (h : rows cy n N M g i v) (hk : k < N) : rowp cy (n + k) M g 0 w := by
  obtain ⟨f, h1, -⟩ := h k hk
  exact ⟨f, h1, fun q hq => absurd hq (Nat.not_lt_zero _)⟩
theorem rows_o {cy : Nat → ClassId} {n N M i k : Nat} {g : Nat → va_E} {v : Nat → Nat → Int32} {e : va_E} (h : rows cy n N M g i v) (hk : k < n ∨ n + N ≤ k) : rows cy n N M (va_up g k e) i v := fun j hj => by
  rw [va_up_ne _ _ (by omega)]
  exact h j hj
theorem rowp_o {cy : Nat → ClassId} {n M j k : Nat} {g : Nat → va_E} {v : Nat → Int32} {e : va_E} (h : rowp cy n M g j v) (hk : n ≠ k) : rowp cy n M (va_up g k e) j v := by
  unfold rowp
  rw [va_up_ne _ _ hk]
  exact h
section LA
variable {l : Launch} {p : Program} {e : Env} {s : State} {m : MethodId} {A : Array Value} {below : List Frame} {meth : Method} {c : Code} {Q : State → Prop} {z0 n cells slots t : Nat} {D : va_G} {cy : Nat → ClassId} {ad : Nat → Nat} {S : tS} {ra le : Nat → Int32} {g0 : Nat → va_E} {x : Int32}
set_option maxRecDepth 100000 in
set_option maxHeartbeats 4000000 in
/-- each house's numbers -/
theorem v_l2 (X : vCx p s m A c cL_law RL 31 z0 D cy) (ho : ok S) (hN8 : sN S ≤ 8) (hn : n = 97 + sN S + sP S) (hB : BJ cy ad S ra le g0) (hc : cells + 9 ≤ 600104) (hs : slots + 88 ≤ 7301314)
    (kk : ∀ (ad' : Nat → Nat) (g' : Nat → va_E), (∀ j, j < n → ad' j = ad j) → BJ cy ad' S ra le g' → g' n = aA cy (sN S) (rf ad' (n + 1) (sN S)) → rows cy (n + 1) (sN S) 10 g' (sN S) (sH S) → vV p l e room_1 s m A below meth c 31 z0 D (cells + 9) (slots + 88) Q (n + 1 + sN S) ad' (jW cy ad' S S ra le g') 129 [some (.ref (cy 9)), some (.ref (ad' 0)), some (.ref (ad' 54)), some (.int (nI (sN S))), some (.int (nI t)), some (.int x), some (.ref (ad' n)), none, none, none, none, none, none, none, none, none, none, none, none, none, none, none, none, none, none, none, none, none, none, none, none] []) :
    vV p l e room_1 s m A below meth c 31 z0 D cells slots Q n ad (jW cy ad S S ra le g0) 73 [some (.ref (cy 9)), some (.ref (ad 0)), some (.ref (ad 54)), some (.int (nI (sN S))), some (.int (nI t)), some (.int x), none, none, none, none, none, none, none, none, none, none, none, none, none, none, none, none, none, none, none, none, none, none, none, none, none] [] := by
  refine v_iload3 X dL_law_73 rfl ?_
  refine v_bip (v := 10) X dL_law_74 (by decide) ?_
  refine v_multi (N := sN S) (M := 10) X rfl rfl (by omega) (by omega) wk_L_102 ⟨by show _ ≤ 600104; omega, by show _ ≤ 7301314; omega⟩ dL_law_76 ?_
  intro ad1 a1
  rw [← a1 0 (by omega), ← a1 54 (by omega)]
  refine vV.eqw (ad' := ad1) (g' := jW cy ad1 S S ra le (mnG cy ad1 n (sN S) 10 g0)) (fun _ _ => rfl) (fun k _ => mn_jW ho (by omega) a1) ?_
  have hB1 : BJ cy ad1 S ra le (mnG cy ad1 n (sN S) 10 g0) := (hB.adr (fun j hj => a1 j (by omega))).eq (fun k hk => mnG_lo (by omega))
  -- the rows, one by one
  have hO : ∀ (q i : Nat), q + i = sN S → ∀ g' : Nat → va_E, BJ cy ad1 S ra le g' → g' n = aA cy (sN S) (rf ad1 (n + 1) (sN S)) → rows cy (n + 1) (sN S) 10 g' i (sH S) → vV p l e room_1 s m A below meth c 31 z0 D (cells + (1 + sN S)) (slots + (sN S + sN S * 10)) Q (n + 1 + sN S) ad1 (jW cy ad1 S S ra le g') 85 [some (.ref (cy 9)), some (.ref (ad1 0)), some (.ref (ad1 54)), some (.int (nI (sN S))), some (.int (nI t)), some (.int x), some (.ref (ad1 n)), some (.int (nI i)), none, none, none, none, none, none, none, none, none, none, none, none, none, none, none, none, none, none, none, none, none, none, none] [] := by
    intro q
    induction q with
    | zero =>
      intro i hi g' hB hw hr
      have : i = sN S := by omega
      subst this
      refine v_iload X dL_law_85 rfl ?_
      refine v_iload3 X dL_law_87 rfl ?_
      refine v_icmp_ge (tgt := 129) X dL_law_88 (by decide) (fun h5 => ?_) (fun h5 => ?_)
      · exact (vV.le (by exact ⟨rfl, rfl, rfl, rfl, rfl, rfl, rfl, trivial⟩) (kk ad1 g' a1 hB hw hr)).wd (by omega) (by omega)
      · exact absurd (Int32.le_refl _) h5
    | succ q ih =>
      intro i hqi g' hB hw hr
      have hi : i < sN S := by omega
      have hI : ∀ (q j : Nat), q + j = 10 → ∀ g' : Nat → va_E, BJ cy ad1 S ra le g' → g' n = aA cy (sN S) (rf ad1 (n + 1) (sN S)) → rows cy (n + 1) (sN S) 10 g' i (sH S) → rowp cy (n + 1 + i) 10 g' j (sH S i) → vV p l e room_1 s m A below meth c 31 z0 D (cells + (1 + sN S)) (slots + (sN S + sN S * 10)) Q (n + 1 + sN S) ad1 (jW cy ad1 S S ra le g') 94 [some (.ref (cy 9)), some (.ref (ad1 0)), some (.ref (ad1 54)), some (.int (nI (sN S))), some (.int (nI t)), some (.int x), some (.ref (ad1 n)), some (.int (nI i)), some (.int (nI j)), none, none, none, none, none, none, none, none, none, none, none, none, none, none, none, none, none, none, none, none, none, none] [] := by
        intro q
        induction q with
        | zero =>
          intro j hj g' hB hw hr hp
          have : j = 10 := by omega
          subst this
          refine v_iload X dL_law_94 rfl ?_
          refine v_bip (v := 10) X dL_law_96 (by decide) ?_
          refine v_icmp_ge (tgt := 123) X dL_law_98 (by decide) (fun _ => ?_) (fun hc => absurd (Int32.le_refl _) hc)
          refine v_iinc7 (v := nI (i + 1)) X rfl (Nat.le_of_ble_eq_true rfl) dL_law_123 (nI_inc i) ?_
          refine v_goto (tgt := 85) X dL_law_126 (by decide) ?_
          exact vV.le (by exact ⟨rfl, rfl, rfl, rfl, rfl, rfl, rfl, rfl, trivial⟩) (ih (i + 1) (by omega) g' hB hw (rows_nx hr hp))
        | succ q ih2 =>
          intro j hqj g' hB hw hr hp
          have hj : j < 10 := by omega
          obtain ⟨f, hf, hf2⟩ := hp
          refine v_iload X dL_law_94 rfl ?_
          refine v_bip (v := 10) X dL_law_96 (by decide) ?_
          refine v_icmp_ge (tgt := 123) X dL_law_98 (by decide) (fun h5 => ?_) (fun h5 => ?_)
          · exact absurd h5 (nIge (N := 10) hj (by omega))
          refine v_aload X dL_law_101 rfl ?_
          refine v_iload X dL_law_103 rfl ?_
          refine v_aaldR X dL_law_105 (jA ho (by omega) (by omega) hw) rfl hi (by omega) ?_
          refine v_iload X dL_law_106 rfl ?_
          refine v_aload1 X dL_law_108 rfl ?_
          refine v_iload X dL_law_109 rfl ?_
          refine v_iload X dL_law_111 rfl ?_
          refine cd_L_103 X dL_law_113 (c_house l (hB.R (by omega)) ho hi hj (IN_0 (b := 9) (by omega) (by omega))) (jS_r hB (by omega)) rfl (Nat.le_of_ble_eq_true rfl) ⟨(Nat.le_of_ble_eq_true rfl), (Nat.le_of_ble_eq_true rfl), (by first | (show _ ≤ 600104; omega) | (show _ ≤ 7301314; omega)), (by first | (show _ ≤ 600104; omega) | (show _ ≤ 7301314; omega))⟩ ?_
          refine v_iast X dL_law_116 (jA ho (by omega) (by omega) hf) rfl hj (by omega) ?_
          refine vV.gg (jW_up ho (by omega)) ?_
          refine v_iinc8 (v := nI (j + 1)) X rfl (Nat.le_of_ble_eq_true rfl) dL_law_117 (nI_inc j) ?_
          refine v_goto (tgt := 94) X dL_law_120 (by decide) ?_
          exact ih2 (j + 1) (by omega) (va_up g' (n + 1 + i) (iA cy 10 (upd f j (sH S i j)))) (hB.up (by omega)) ((va_up_ne _ _ (by omega)).trans hw) (rows_st hr) (rowp_st hf2 rfl)
      refine v_iload X dL_law_85 rfl ?_
      refine v_iload3 X dL_law_87 rfl ?_
      refine v_icmp_ge (tgt := 129) X dL_law_88 (by decide) (fun h5 => ?_) (fun h5 => ?_)
      · exact absurd h5 (nIge hi (by omega))
      refine v_ico (v := 0) X dL_law_91 (by decide) ?_
      refine v_istore8 X rfl (Nat.le_of_ble_eq_true rfl) dL_law_92 ?_
      exact hI 10 0 rfl g' hB hw hr (rowp_0 hr hi)
  refine v_astore6 X rfl (Nat.le_of_ble_eq_true rfl) dL_law_80 ?_
  refine v_ico (v := 0) X dL_law_82 (by decide) ?_
  refine v_istore7 X rfl (Nat.le_of_ble_eq_true rfl) dL_law_83 ?_
  exact hO (sN S) 0 (by omega) _ hB1 mnG_n (fun k hk => ⟨_, mnG_hi (by omega), fun q => absurd q (Nat.not_lt_zero _)⟩)
end LA
