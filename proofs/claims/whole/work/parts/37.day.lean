/-! the model's day -/
theorem Ct0.to {l : Launch} {y : MethodName} {bytes : ByteArray} {maxL f lo z0 n : Nat} {ret : Option FieldType} {D : va_G} {cy : Nat → ClassId} {ad : Nat → Nat} {g g' g2 : Nat → va_E} {av : List Value} {r r2 : Option Value} (h : Ct0 l y bytes maxL ret f lo z0 D cy n ad g av r g') (hr : r = r2) (hg : g' = g2) : Ct0 l y bytes maxL ret f lo z0 D cy n ad g av r2 g2 := hr ▸ hg ▸ h
/-- the state with house h's numbers told -/
abbrev hU (S : tS) (h : Nat) (f : Nat → Int32) : tS := setH S (va_up (sH S) h f)
theorem hU_hU (S : tS) (h : Nat) (f f' : Nat → Int32) : hU (hU S h f) h f' = hU S h f' := by
  show setH S (va_up (va_up (sH S) h f) h f') = _
  rw [va_up_up]
theorem hU_self (S : tS) (h : Nat) : hU S h (sH S h) = S := by
  show (sN S, sP S, va_up (sH S) h (sH S h), sQ S, sF S, sM S) = S
  rw [va_up_eta _ _ _ rfl]
theorem m_hoF (l : Launch) {z0 n : Nat} {D : va_G} {cy : Nat → ClassId} {ad : Nat → Nat} {h w : Nat} {f : Nat → Int32} {th : Int32} {ra le : Nat → Int32} {S : tS} {g : Nat → va_E} (hn : 61 ≤ n) (hN : sN S ≤ 10) (hh : h < sN S) (hw : w < 10) : Ct0 l yX5_ho cX5_ho 3 (some FieldType.int) 0 0 z0 D cy n ad (gM cy ad th ra le (hU S h f) g) [.ref (ad 54), .int (nI h), .int (nI w)] (some (.int (f w))) (gM cy ad th ra le (hU S h f) g) :=
  (m_ho l (S := hU S h f) hn hN hh hw).to (by show some (Value.int (va_up (sH S) h f h w)) = _; rw [va_up_self]) rfl
theorem m_setF (l : Launch) {z0 n : Nat} {D : va_G} {cy : Nat → ClassId} {ad : Nat → Nat} {h w : Nat} {f : Nat → Int32} {th x : Int32} {ra le : Nat → Int32} {S : tS} {g : Nat → va_E} (hn : 61 ≤ n) (hN : sN S ≤ 10) (hh : h < sN S) (hw : w < 10) : Ct0 l yX5_set cX5_set 4 none 0 0 z0 D cy n ad (gM cy ad th ra le (hU S h f) g) [.ref (ad 54), .int (nI h), .int (nI w), .int x] none (gM cy ad th ra le (hU S h (upd f w x)) g) :=
  (m_set l (S := hU S h f) hn hN hh hw).to rfl (by
    show gM cy ad th ra le (hU (hU S h f) h (upd (va_up (sH S) h f h) w x)) g = _
    rw [hU_hU, va_up_self])
set_option maxRecDepth 100000 in
set_option maxHeartbeats 4000000 in
theorem m_pour (l : Launch) {z0 n : Nat} {D : va_G} {cy : Nat → ClassId} {ad : Nat → Nat} {k : Nat} {x a th : Int32} {ra le : Nat → Int32} {S : tS} {g : Nat → va_E} (hn : 61 ≤ n) (hN : sN S ≤ 10) (hk : Ter (sN S) (sH S) k x) : Ct0 l yX5_pour cX5_pour 6 (some FieldType.int) 1 40 z0 D cy n ad (gM cy ad th ra le S g) [.ref (ad 54), .int x, .int a] (some (.int (pourA S x a))) (gM cy ad th ra le (pourT S x a) g) := by
  refine ct_of (by decide +kernel) 3 [some (.ref (ad 54)), some (.int x), some (.int a), none, none, none] (Nat.le_of_ble_eq_true rfl) rfl ?_
  intro p e s m below meth c X hr hlk hnm
  generalize hQ : MQ below (QcR z0 D (isR (some (.int (pourA S x a))) n ad (gM cy ad th ra le (pourT S x a) g))) ([.ref (ad 54), .int x, .int a] : List Value).toArray s 0 0 (fun q => z0 ≤ q) = Q
  have hL : ∀ (q : Nat) (hs : Nat → Nat → Int32) (y left : Int32), Ter (sN S) hs q y → pourS q hs y left = pourS (sN S) (sH S) x a → vV p l e (rmv 1 40) s m ([.ref (ad 54), .int x, .int a] : List Value).toArray below meth c 6 z0 D 0 0 Q n ad (gM cy ad th ra le (setH S hs) g) 5 [some (.ref (ad 54)), some (.int x), some (.int a), some (.int left), some (.int y), none] [] := by
    intro q
    induction q with
    | zero =>
      intro hs y left ht he
      have hy : y = -1 := ht
      subst hy
      have he' : (hs, left) = pourS (sN S) (sH S) x a := he
      refine v_iload X dX5_pour_5 rfl ?_
      refine v_ico (v := -1) X dX5_pour_7 (by decide) ?_
      refine v_icmp_eq (tgt := 67) X dX5_pour_8 (by decide) (fun hc => ?_) (fun hc => ?_)
      · refine v_aload0 X dX5_pour_67 rfl ?_
        refine gf_X5_25 X dX5_pour_68 (gM_t hn) ?_
        refine v_ico (v := 2) X dX5_pour_71 (by decide) ?_
        refine v_dup2 X dX5_pour_72 rfl rfl ?_
        refine v_iald X dX5_pour_73 (gM_m hn) rfl (by decide) (by decide) ?_
        refine v_iload3 X dX5_pour_74 rfl ?_
        refine v_iadd X dX5_pour_75 ?_
        refine v_iast X dX5_pour_76 (gM_m hn) rfl (by decide) (by decide) ?_
        refine vV.gg (gM_upM) ?_
        refine v_iload3 X dX5_pour_77 rfl ?_
        have e1 : (pourS (sN S) (sH S) x a).1 = hs := by rw [← he']
        have e2 : pourA S x a = left := by unfold pourA; rw [← he']
        rw [← hQ]
        refine vV.gg (show _ = gM cy ad th ra le (pourT S x a) g from ?_) ?_
        · unfold pourT
          rw [e1, e2]
        exact v_iret X hr hlk dX5_pour_78 ⟨by rw [e2], rfl, rfl, rfl⟩
      exact absurd rfl hc
    | succ q ih =>
      intro hs y left ht he
      obtain ⟨j, h1, rfl, h3⟩ := ht
      rw [pourS_nI (by omega)] at he
      refine v_iload X dX5_pour_5 rfl ?_
      refine v_ico (v := -1) X dX5_pour_7 (by decide) ?_
      refine v_icmp_eq (tgt := 67) X dX5_pour_8 (by decide) (fun hc => ?_) (fun hc => ?_)
      · exact absurd hc (nI_m1 (by omega))
      refine v_iload3 X dX5_pour_11 rfl ?_
      refine v_aload0 X dX5_pour_12 rfl ?_
      refine v_iload X dX5_pour_13 rfl ?_
      refine v_ico (v := 1) X dX5_pour_15 (by decide) ?_
      refine cd_X5_56 X dX5_pour_16 (m_ho l (w := 1) (S := setH S hs) hn hN h1 (by decide)) (gM_t hn) rfl (Nat.le_of_ble_eq_true rfl) ⟨(Nat.le_of_ble_eq_true rfl), (Nat.le_of_ble_eq_true rfl), (Nat.le_of_ble_eq_true rfl), (Nat.le_of_ble_eq_true rfl)⟩ ?_
      refine v_aload0 X dX5_pour_19 rfl ?_
      refine v_iload X dX5_pour_20 rfl ?_
      refine v_ico (v := 2) X dX5_pour_22 (by decide) ?_
      refine cd_X5_56 X dX5_pour_23 (m_ho l (w := 2) (S := setH S hs) hn hN h1 (by decide)) (gM_t hn) rfl (Nat.le_of_ble_eq_true rfl) ⟨(Nat.le_of_ble_eq_true rfl), (Nat.le_of_ble_eq_true rfl), (Nat.le_of_ble_eq_true rfl), (Nat.le_of_ble_eq_true rfl)⟩ ?_
      refine v_isub X dX5_pour_26 ?_
      refine v_mmin X dX5_pour_27 wm_X5_70 wt_J9_min_7cf53 wz_J9 wc_J9_min_7cf53 ⟨(Nat.le_of_ble_eq_true rfl), (Nat.le_of_ble_eq_true rfl), (Nat.le_of_ble_eq_true rfl), (Nat.le_of_ble_eq_true rfl)⟩ ?_
      refine v_istore5 X rfl (Nat.le_of_ble_eq_true rfl) dX5_pour_30 ?_
      refine v_aload0 X dX5_pour_32 rfl ?_
      refine v_iload X dX5_pour_33 rfl ?_
      refine v_ico (v := 2) X dX5_pour_35 (by decide) ?_
      refine v_aload0 X dX5_pour_36 rfl ?_
      refine v_iload X dX5_pour_37 rfl ?_
      refine v_ico (v := 2) X dX5_pour_39 (by decide) ?_
      refine cd_X5_56 X dX5_pour_40 (m_ho l (w := 2) (S := setH S hs) hn hN h1 (by decide)) (gM_t hn) rfl (Nat.le_of_ble_eq_true rfl) ⟨(Nat.le_of_ble_eq_true rfl), (Nat.le_of_ble_eq_true rfl), (Nat.le_of_ble_eq_true rfl), (Nat.le_of_ble_eq_true rfl)⟩ ?_
      refine v_iload X dX5_pour_43 rfl ?_
      refine v_iadd X dX5_pour_45 ?_
      refine cd_X5_60 X dX5_pour_46 (m_set l (w := 2) (S := setH S hs) hn hN h1 (by decide)) (gM_t hn) rfl (Nat.le_of_ble_eq_true rfl) ⟨(Nat.le_of_ble_eq_true rfl), (Nat.le_of_ble_eq_true rfl), (Nat.le_of_ble_eq_true rfl), (Nat.le_of_ble_eq_true rfl)⟩ ?_
      refine v_iload3 X dX5_pour_49 rfl ?_
      refine v_iload X dX5_pour_50 rfl ?_
      refine v_isub X dX5_pour_52 ?_
      refine v_istore3 X rfl (Nat.le_of_ble_eq_true rfl) dX5_pour_53 ?_
      refine vV.gg (show _ = gM cy ad th ra le (hU (setH S hs) j (takeF (hs j) left)) g from rfl) ?_
      refine v_aload0 X dX5_pour_54 rfl ?_
      refine v_iload X dX5_pour_55 rfl ?_
      refine v_bip (v := 6) X dX5_pour_57 (by decide) ?_
      refine cd_X5_56 X dX5_pour_59 (m_hoF l (w := 6) (S := setH S hs) (f := takeF (hs j) left) hn hN h1 (by decide)) (gM_t hn) rfl (Nat.le_of_ble_eq_true rfl) ⟨(Nat.le_of_ble_eq_true rfl), (Nat.le_of_ble_eq_true rfl), (Nat.le_of_ble_eq_true rfl), (Nat.le_of_ble_eq_true rfl)⟩ ?_
      refine v_istore4 X rfl (Nat.le_of_ble_eq_true rfl) dX5_pour_62 ?_
      refine v_goto (tgt := 5) X dX5_pour_64 (by decide) ?_
      refine vV.le (A := [some (.ref (ad 54)), some (.int x), some (.int a), some (.int (left - tkF (hs j) left)), some (.int (hs j 6)), none]) ⟨rfl, rfl, rfl, rfl, by rw [take_o _ _ (by decide)], trivial⟩ ?_
      exact ih _ _ _ (h3.congr (fun i _ => va_o (take_o _ _ (by decide)) i)) he
  refine v_iload2 X dX5_pour_0 rfl ?_
  refine v_istore3 X rfl (Nat.le_of_ble_eq_true rfl) dX5_pour_1 ?_
  refine v_iload1 X dX5_pour_2 rfl ?_
  refine v_istore4 X rfl (Nat.le_of_ble_eq_true rfl) dX5_pour_3 ?_
  refine vV.le (A := [some (.ref (ad 54)), some (.int x), some (.int a), some (.int a), some (.int x), none]) ⟨rfl, rfl, rfl, rfl, rfl, trivial⟩ ?_
  exact hL k (sH S) x a hk (pourS_ter hN hk _ (hk.le hN)).symm
/-! what goes through a pipe, told the other way -/
def goF (q f1 f2 : Nat → Int32) : Int32 := jmin (q 2) (jabs (f1 2 * f2 1 - f2 2 * f1 1) / (f1 1 + f2 1))
theorem goF_ok {q f1 f2 : Nat → Int32} (h1 : rgH f1) (h2 : rgH f2) (hl : 1 ≤ (q 2).toInt ∧ (q 2).toInt ≤ 50) : jabs (flwF q f1 f2) = goF q f1 f2 ∧ (0 < f1 2 * f2 1 - f2 2 * f1 1 → flwF q f1 f2 = goF q f1 f2) ∧ (¬ 0 < f1 2 * f2 1 - f2 2 * f1 1 → flwF q f1 f2 = -goF q f1 f2) ∧ ¬ (f1 1 + f2 1 = 0) := by
  obtain ⟨e1, e2, e3⟩ := flwI h1 h2 hl
  obtain ⟨_, b1, c1, _⟩ := id h1
  obtain ⟨_, b2, c2, _⟩ := id h2
  have m1 := mulLe (a := (f1 2).toInt) (b := (f2 1).toInt) (A := 900) (B := 900) (by omega) (by omega) (by omega) (by omega)
  have m2 := mulLe (a := (f2 2).toInt) (b := (f1 1).toInt) (A := 900) (B := 900) (by omega) (by omega) (by omega) (by omega)
  have z : (0 : Int32).toInt = 0 := Int32.toInt_zero
  have z1 : (-1 : Int32).toInt = -1 := by decide
  generalize hM : f1 2 * f2 1 - f2 2 * f1 1 = M at *
  generalize hK : f1 1 + f2 1 = K at *
  rw [← e1, ← e2] at e3
  have a1 := jabsI (x := M) (by omega)
  have a2 : (jabs M / K).toInt = (jabs M).toInt.tdiv K.toInt := divI (fun h => by rw [h] at e2; omega)
  have a3 : (goF q f1 f2).toInt = min (q 2).toInt ((jabs M).toInt.tdiv K.toInt) := by
    unfold goF
    rw [hM, hK, jminI, a2]
  have a4 := jabsI (x := flwF q f1 f2) (by omega)
  have pos : (0 < M) ↔ 0 < M.toInt := by rw [Int32.lt_iff_toInt_lt, z]
  have g0 : 0 ≤ (jabs M).toInt.tdiv K.toInt := Int.tdiv_nonneg (by rw [a1]; split <;> omega) (by omega)
  have g1 : 0 ≤ (goF q f1 f2).toInt ∧ (goF q f1 f2).toInt ≤ 50 := by omega
  have g2 : (-goF q f1 f2).toInt = -(goF q f1 f2).toInt := negI (by omega)
  have key : (0 < M.toInt → (flwF q f1 f2).toInt = (goF q f1 f2).toInt) ∧ (¬ 0 < M.toInt → (flwF q f1 f2).toInt = -(goF q f1 f2).toInt) := by
    refine ⟨fun h => ?_, fun h => ?_⟩
    · rw [if_pos (by omega)] at a1
      rw [a1] at a3 g0
      rw [e3, a3]
      omega
    · have a1' : (jabs M).toInt = -M.toInt := by rw [a1]; split <;> omega
      rw [a1', Int.neg_tdiv] at a3 g0
      rw [e3, a3]
      omega
  refine ⟨Int32.toInt_inj.mp ?_, fun h => Int32.toInt_inj.mp (key.1 (pos.mp h)), fun h => Int32.toInt_inj.mp ?_, fun h => by rw [h] at e2; omega⟩
  · rw [a4]
    by_cases h : 0 < M.toInt
    · rw [key.1 h]; split <;> omega
    · rw [key.2 h]; split <;> omega
  · rw [g2]; exact key.2 (fun q => h (pos.mpr q))
theorem vG_5 {N : Nat} {hs hs' : Nat → Nat → Int32} (h : ∀ i w, w < 5 → hs' i w = hs i w) : vG 5 N hs' = vG 5 N hs := by
  funext j
  unfold vG
  rw [h _ _ (Nat.mod_lt _ (by decide))]
theorem gM_q {cy : Nat → ClassId} {ad : Nat → Nat} {th : Int32} {ra le : Nat → Int32} {S T : tS} {g : Nat → va_E} (hN : sN T = sN S) (hP : sP T = sP S) (hH : sH T = sH S) (hF : sF T = sF S) (hM : sM T = sM S) (hQ : ∀ i w, w < 5 → sQ T i w = sQ S i w) : gM cy ad th ra le T g = gM cy ad th ra le S g := by
  unfold gM
  rw [hN, hP, hH, hF, hM, vG_5 hQ]
/-- what the model leaves when G goes from house i to house j -/
def mE (p i j : Nat) (G : Int32) (S : tS) : tS := (sN S, sP S, va_up (va_up (sH S) i (upd (sH S i) 2 (sH S i 2 - G))) j (upd (va_up (sH S) i (upd (sH S i) 2 (sH S i 2 - G)) j) 2 (va_up (sH S) i (upd (sH S i) 2 (sH S i 2 - G)) j 2 + G)), va_up (sQ S) p (upd (sQ S p) 4 (sQ S p 4 + G)), upd (sF S) (10 * j + i) (sF S (10 * j + i) + G), sM S)
theorem mE_Q {q f1 f2 : Nat → Int32} {w : Nat} (hw : w < 5) (e1 : jabs (flwF q f1 f2) = goF q f1 f2) : evQ q f1 f2 w = upd q 4 (q 4 + goF q f1 f2) w := by
  unfold evQ
  by_cases c2 : w = 4
  · subst c2; rw [upd_s, upd_s, e1]
  · rw [upd_n _ _ c2, upd_n _ _ (by omega), upd_n _ _ c2]
theorem va_upw {hs : Nat → Nat → Int32} {p i w : Nat} {f f' : Nat → Int32} (h : f w = f' w) : va_up hs p f i w = va_up hs p f' i w := by
  by_cases c1 : i = p
  · subst c1; rw [va_up_self, va_up_self, h]
  · rw [va_up_ne _ _ c1, va_up_ne _ _ c1]
theorem mE_1 {cy : Nat → ClassId} {ad : Nat → Nat} {th : Int32} {ra le : Nat → Int32} {S : tS} {g : Nat → va_E} {p : Nat} (ho : ok S) (hp : p < sP S) (h : 0 < evM S p) : gM cy ad th ra le (mE p (evA S p) (evB S p) (goF (sQ S p) (sH S (evA S p)) (sH S (evB S p))) S) g = gM cy ad th ra le (evenT p S) g := by
  obtain ⟨hA, hB, hAB, q0, q1, hl1, hl2, hb⟩ := okQ_ends ho hp
  obtain ⟨e1, e2, e3, e4⟩ := goF_ok (q := sQ S p) (ho.2.2.1 _ hA) (ho.2.2.1 _ hB) ⟨hl1, hl2⟩
  have e2' := e2 h
  have hH : sH (evenT p S) = sH (mE p (evA S p) (evB S p) (goF (sQ S p) (sH S (evA S p)) (sH S (evB S p))) S) := by
    unfold evenT mE evF
    dsimp only [sH]
    rw [e2', va_up_ne _ _ (Ne.symm hAB)]
  have hF : sF (evenT p S) = sF (mE p (evA S p) (evB S p) (goF (sQ S p) (sH S (evA S p)) (sH S (evB S p))) S) := by
    unfold evenT mE evF evI
    dsimp only [sF]
    rw [if_pos h, e1]
  exact (gM_q (S := mE p (evA S p) (evB S p) (goF (sQ S p) (sH S (evA S p)) (sH S (evB S p))) S) (T := evenT p S) rfl rfl hH hF rfl (fun i w hw => va_upw (mE_Q hw e1))).symm
theorem mE_2 {cy : Nat → ClassId} {ad : Nat → Nat} {th : Int32} {ra le : Nat → Int32} {S : tS} {g : Nat → va_E} {p : Nat} (ho : ok S) (hp : p < sP S) (h : ¬ 0 < evM S p) : gM cy ad th ra le (mE p (evB S p) (evA S p) (goF (sQ S p) (sH S (evA S p)) (sH S (evB S p))) S) g = gM cy ad th ra le (evenT p S) g := by
  obtain ⟨hA, hB, hAB, q0, q1, hl1, hl2, hb⟩ := okQ_ends ho hp
  obtain ⟨e1, e2, e3, e4⟩ := goF_ok (q := sQ S p) (ho.2.2.1 _ hA) (ho.2.2.1 _ hB) ⟨hl1, hl2⟩
  have e3' := e3 h
  have r1 : ∀ a b : Int32, a - -b = a + b := fun a b => Int32.sub_neg
  have r2 : ∀ a b : Int32, a + -b = a - b := fun a b => (Int32.sub_eq_add_neg a b).symm
  have hH : sH (evenT p S) = sH (mE p (evB S p) (evA S p) (goF (sQ S p) (sH S (evA S p)) (sH S (evB S p))) S) := by
    unfold evenT mE evF
    dsimp only [sH]
    rw [e3', va_up_ne _ _ hAB, r1, r2]
    exact va_up_comm _ _ _ hAB
  have hF : sF (evenT p S) = sF (mE p (evB S p) (evA S p) (goF (sQ S p) (sH S (evA S p)) (sH S (evB S p))) S) := by
    unfold evenT mE evF evI
    dsimp only [sF]
    rw [if_neg h, e1]
  exact (gM_q (S := mE p (evB S p) (evA S p) (goF (sQ S p) (sH S (evA S p)) (sH S (evB S p))) S) (T := evenT p S) rfl rfl hH hF rfl (fun i w hw => va_upw (mE_Q hw e1))).symm
set_option maxRecDepth 100000 in
set_option maxHeartbeats 4000000 in
theorem m_even (l : Launch) {z0 n : Nat} {D : va_G} {cy : Nat → ClassId} {ad : Nat → Nat} {p1 : Nat} {th : Int32} {ra le : Nat → Int32} {S : tS} {g : Nat → va_E} (hn : 61 ≤ n) (ho : ok S) (hp : p1 < sP S) : Ct0 l yX5_even cX5_even 8 none 1 40 z0 D cy n ad (gM cy ad th ra le S g) [.ref (ad 54), .int (nI p1)] none (gM cy ad th ra le (evenT p1 S) g) := by
  refine ct_of (by decide +kernel) 6 [some (.ref (ad 54)), some (.int (nI p1)), none, none, none, none, none, none] (Nat.le_of_ble_eq_true rfl) rfl ?_
  intro p e s m below meth c X hr hlk hnm
  have hN := ho.1
  have hP := ho.2.1
  obtain ⟨hA, hB, hAB, q0, q1, hl1, hl2, hb⟩ := okQ_ends ho hp
  obtain ⟨e1, e2, e3, e4⟩ := goF_ok (q := sQ S p1) (ho.2.2.1 _ hA) (ho.2.2.1 _ hB) ⟨hl1, hl2⟩
  generalize hQ : MQ below (QcR z0 D (isR none n ad (gM cy ad th ra le (evenT p1 S) g))) ([.ref (ad 54), .int (nI p1)] : List Value).toArray s 0 0 (fun q => z0 ≤ q) = Q
  refine v_aload0 X dX5_even_0 rfl ?_
  refine v_iload1 X dX5_even_1 rfl ?_
  refine v_ico (v := 0) X dX5_even_2 (by decide) ?_
  refine cd_X5_67 X dX5_even_3 (m_pi l (w := 0) hn hP hp (by decide)) (gM_t hn) rfl (Nat.le_of_ble_eq_true rfl) ⟨(Nat.le_of_ble_eq_true rfl), (Nat.le_of_ble_eq_true rfl), (Nat.le_of_ble_eq_true rfl), (Nat.le_of_ble_eq_true rfl)⟩ ?_
  refine vV.top (congrArg Value.int q0) ?_
  refine v_istore2 X rfl (Nat.le_of_ble_eq_true rfl) dX5_even_6 ?_
  refine v_aload0 X dX5_even_7 rfl ?_
  refine v_iload1 X dX5_even_8 rfl ?_
  refine v_ico (v := 1) X dX5_even_9 (by decide) ?_
  refine cd_X5_67 X dX5_even_10 (m_pi l (w := 1) hn hP hp (by decide)) (gM_t hn) rfl (Nat.le_of_ble_eq_true rfl) ⟨(Nat.le_of_ble_eq_true rfl), (Nat.le_of_ble_eq_true rfl), (Nat.le_of_ble_eq_true rfl), (Nat.le_of_ble_eq_true rfl)⟩ ?_
  refine vV.top (congrArg Value.int q1) ?_
  refine v_istore3 X rfl (Nat.le_of_ble_eq_true rfl) dX5_even_13 ?_
  refine v_aload0 X dX5_even_14 rfl ?_
  refine v_iload2 X dX5_even_15 rfl ?_
  refine v_ico (v := 2) X dX5_even_16 (by decide) ?_
  refine cd_X5_56 X dX5_even_17 (m_ho l (w := 2) hn hN hA (by decide)) (gM_t hn) rfl (Nat.le_of_ble_eq_true rfl) ⟨(Nat.le_of_ble_eq_true rfl), (Nat.le_of_ble_eq_true rfl), (Nat.le_of_ble_eq_true rfl), (Nat.le_of_ble_eq_true rfl)⟩ ?_
  refine v_aload0 X dX5_even_20 rfl ?_
  refine v_iload3 X dX5_even_21 rfl ?_
  refine v_ico (v := 1) X dX5_even_22 (by decide) ?_
  refine cd_X5_56 X dX5_even_23 (m_ho l (w := 1) hn hN hB (by decide)) (gM_t hn) rfl (Nat.le_of_ble_eq_true rfl) ⟨(Nat.le_of_ble_eq_true rfl), (Nat.le_of_ble_eq_true rfl), (Nat.le_of_ble_eq_true rfl), (Nat.le_of_ble_eq_true rfl)⟩ ?_
  refine v_imul X dX5_even_26 ?_
  refine v_aload0 X dX5_even_27 rfl ?_
  refine v_iload3 X dX5_even_28 rfl ?_
  refine v_ico (v := 2) X dX5_even_29 (by decide) ?_
  refine cd_X5_56 X dX5_even_30 (m_ho l (w := 2) hn hN hB (by decide)) (gM_t hn) rfl (Nat.le_of_ble_eq_true rfl) ⟨(Nat.le_of_ble_eq_true rfl), (Nat.le_of_ble_eq_true rfl), (Nat.le_of_ble_eq_true rfl), (Nat.le_of_ble_eq_true rfl)⟩ ?_
  refine v_aload0 X dX5_even_33 rfl ?_
  refine v_iload2 X dX5_even_34 rfl ?_
  refine v_ico (v := 1) X dX5_even_35 (by decide) ?_
  refine cd_X5_56 X dX5_even_36 (m_ho l (w := 1) hn hN hA (by decide)) (gM_t hn) rfl (Nat.le_of_ble_eq_true rfl) ⟨(Nat.le_of_ble_eq_true rfl), (Nat.le_of_ble_eq_true rfl), (Nat.le_of_ble_eq_true rfl), (Nat.le_of_ble_eq_true rfl)⟩ ?_
  refine v_imul X dX5_even_39 ?_
  refine v_isub X dX5_even_40 ?_
  refine v_istore4 X rfl (Nat.le_of_ble_eq_true rfl) dX5_even_41 ?_
  refine v_iload X dX5_even_43 rfl ?_
  have hG : ∀ i j : Nat, i < sN S → j < sN S → gM cy ad th ra le (mE p1 i j (goF (sQ S p1) (sH S (evA S p1)) (sH S (evB S p1))) S) g = gM cy ad th ra le (evenT p1 S) g → vV p l e (rmv 1 40) s m ([.ref (ad 54), .int (nI p1)] : List Value).toArray below meth c 8 z0 D 0 0 Q n ad (gM cy ad th ra le S g) 67 [some (.ref (ad 54)), some (.int (nI p1)), some (.int (nI (evA S p1))), some (.int (nI (evB S p1))), some (.int (evM S p1)), some (.int (nI i)), some (.int (nI j)), none] [] := by
    intro i j hi hj hE
    generalize hGG : goF (sQ S p1) (sH S (evA S p1)) (sH S (evB S p1)) = G at hE
    refine v_aload0 X dX5_even_67 rfl ?_
    refine v_iload1 X dX5_even_68 rfl ?_
    refine v_ico (v := 2) X dX5_even_69 (by decide) ?_
    refine cd_X5_67 X dX5_even_70 (m_pi l (w := 2) hn hP hp (by decide)) (gM_t hn) rfl (Nat.le_of_ble_eq_true rfl) ⟨(Nat.le_of_ble_eq_true rfl), (Nat.le_of_ble_eq_true rfl), (Nat.le_of_ble_eq_true rfl), (Nat.le_of_ble_eq_true rfl)⟩ ?_
    refine v_iload X dX5_even_73 rfl ?_
    refine v_mabs X dX5_even_75 wm_X5_81 wt_J9_abs_0f7a4 wz_J9 wc_J9_abs_0f7a4 ⟨(Nat.le_of_ble_eq_true rfl), (Nat.le_of_ble_eq_true rfl), (Nat.le_of_ble_eq_true rfl), (Nat.le_of_ble_eq_true rfl)⟩ ?_
    refine v_aload0 X dX5_even_78 rfl ?_
    refine v_iload2 X dX5_even_79 rfl ?_
    refine v_ico (v := 1) X dX5_even_80 (by decide) ?_
    refine cd_X5_56 X dX5_even_81 (m_ho l (w := 1) hn hN hA (by decide)) (gM_t hn) rfl (Nat.le_of_ble_eq_true rfl) ⟨(Nat.le_of_ble_eq_true rfl), (Nat.le_of_ble_eq_true rfl), (Nat.le_of_ble_eq_true rfl), (Nat.le_of_ble_eq_true rfl)⟩ ?_
    refine v_aload0 X dX5_even_84 rfl ?_
    refine v_iload3 X dX5_even_85 rfl ?_
    refine v_ico (v := 1) X dX5_even_86 (by decide) ?_
    refine cd_X5_56 X dX5_even_87 (m_ho l (w := 1) hn hN hB (by decide)) (gM_t hn) rfl (Nat.le_of_ble_eq_true rfl) ⟨(Nat.le_of_ble_eq_true rfl), (Nat.le_of_ble_eq_true rfl), (Nat.le_of_ble_eq_true rfl), (Nat.le_of_ble_eq_true rfl)⟩ ?_
    refine v_iadd X dX5_even_90 ?_
    refine v_idiv X dX5_even_91 e4 ?_
    refine v_mmin X dX5_even_92 wm_X5_70 wt_J9_min_7cf53 wz_J9 wc_J9_min_7cf53 ⟨(Nat.le_of_ble_eq_true rfl), (Nat.le_of_ble_eq_true rfl), (Nat.le_of_ble_eq_true rfl), (Nat.le_of_ble_eq_true rfl)⟩ ?_
    refine vV.top (w := .int G) (congrArg Value.int hGG) ?_
    refine v_istore7 X rfl (Nat.le_of_ble_eq_true rfl) dX5_even_95 ?_
    refine v_aload0 X dX5_even_97 rfl ?_
    refine v_iload X dX5_even_98 rfl ?_
    refine v_ico (v := 2) X dX5_even_100 (by decide) ?_
    refine v_aload0 X dX5_even_101 rfl ?_
    refine v_iload X dX5_even_102 rfl ?_
    refine v_ico (v := 2) X dX5_even_104 (by decide) ?_
    refine cd_X5_56 X dX5_even_105 (m_ho l (w := 2) hn hN hi (by decide)) (gM_t hn) rfl (Nat.le_of_ble_eq_true rfl) ⟨(Nat.le_of_ble_eq_true rfl), (Nat.le_of_ble_eq_true rfl), (Nat.le_of_ble_eq_true rfl), (Nat.le_of_ble_eq_true rfl)⟩ ?_
    refine v_iload X dX5_even_108 rfl ?_
    refine v_isub X dX5_even_110 ?_
    refine cd_X5_60 X dX5_even_111 (m_set l (w := 2) hn hN hi (by decide)) (gM_t hn) rfl (Nat.le_of_ble_eq_true rfl) ⟨(Nat.le_of_ble_eq_true rfl), (Nat.le_of_ble_eq_true rfl), (Nat.le_of_ble_eq_true rfl), (Nat.le_of_ble_eq_true rfl)⟩ ?_
    refine v_aload0 X dX5_even_114 rfl ?_
    refine v_iload X dX5_even_115 rfl ?_
    refine v_ico (v := 2) X dX5_even_117 (by decide) ?_
    refine v_aload0 X dX5_even_118 rfl ?_
    refine v_iload X dX5_even_119 rfl ?_
    refine v_ico (v := 2) X dX5_even_121 (by decide) ?_
    refine cd_X5_56 X dX5_even_122 (m_ho l (w := 2) (S := hU S i (upd (sH S i) 2 (sH S i 2 - G))) hn hN hj (by decide)) (gM_t hn) rfl (Nat.le_of_ble_eq_true rfl) ⟨(Nat.le_of_ble_eq_true rfl), (Nat.le_of_ble_eq_true rfl), (Nat.le_of_ble_eq_true rfl), (Nat.le_of_ble_eq_true rfl)⟩ ?_
    refine v_iload X dX5_even_125 rfl ?_
    refine v_iadd X dX5_even_127 ?_
    refine cd_X5_60 X dX5_even_128 (m_set l (w := 2) (S := hU S i (upd (sH S i) 2 (sH S i 2 - G))) hn hN hj (by decide)) (gM_t hn) rfl (Nat.le_of_ble_eq_true rfl) ⟨(Nat.le_of_ble_eq_true rfl), (Nat.le_of_ble_eq_true rfl), (Nat.le_of_ble_eq_true rfl), (Nat.le_of_ble_eq_true rfl)⟩ ?_
    refine v_aload0 X dX5_even_131 rfl ?_
    refine gf_X5_19 X dX5_even_132 (gM_t hn) ?_
    refine v_ico (v := 5) X dX5_even_135 (by decide) ?_
    refine v_iload1 X dX5_even_136 rfl ?_
    refine v_imul X dX5_even_137 ?_
    refine v_ico (v := 4) X dX5_even_138 (by decide) ?_
    refine v_iadd X dX5_even_139 ?_
    refine v_dup2 X dX5_even_140 rfl rfl ?_
    refine v_iald X dX5_even_141 (gM_l hn) (ix5 p1 4) (by omega) (by decide) ?_
    refine v_iload X dX5_even_142 rfl ?_
    refine v_iadd X dX5_even_144 ?_
    refine v_iast X dX5_even_145 (gM_l hn) (ix5 p1 4) (by omega) (by decide) ?_
    refine vV.gg (gM_upL hp (by decide)) ?_
    refine v_aload0 X dX5_even_146 rfl ?_
    refine gf_X5_22 X dX5_even_147 (gM_t hn) ?_
    refine v_bip (v := 10) X dX5_even_150 (by decide) ?_
    refine v_iload X dX5_even_152 rfl ?_
    refine v_imul X dX5_even_154 ?_
    refine v_iload X dX5_even_155 rfl ?_
    refine v_iadd X dX5_even_157 ?_
    refine v_dup2 X dX5_even_158 rfl rfl ?_
    refine v_iald X dX5_even_159 (gM_f hn) (ix10 j i) (by omega) (by decide) ?_
    refine v_iload X dX5_even_160 rfl ?_
    refine v_iadd X dX5_even_162 ?_
    refine v_iast X dX5_even_163 (gM_f hn) (ix10 j i) (by omega) (by decide) ?_
    refine vV.gg (gM_upF) ?_
    rw [← hQ]
    refine vV.gg ?_ (v_vret X hr hlk dX5_even_164 ⟨rfl, rfl, rfl, rfl⟩)
    rw [← hE, vG_at hp (by decide)]
    rfl
  refine v_if_le (tgt := 52) X dX5_even_45 (by decide) (fun hc => ?_) (fun hc => ?_)
  · refine v_iload3 X dX5_even_52 rfl ?_
    refine v_istore5 X rfl (Nat.le_of_ble_eq_true rfl) dX5_even_53 ?_
    refine v_iload X dX5_even_55 rfl ?_
    refine v_if_le (tgt := 64) X dX5_even_57 (by decide) (fun hc2 => ?_) (fun hc2 => ?_)
    · refine v_iload2 X dX5_even_64 rfl ?_
      refine v_istore6 X rfl (Nat.le_of_ble_eq_true rfl) dX5_even_65 ?_
      exact hG _ _ hB hA (mE_2 ho hp (Int32.not_lt.mpr hc))
    exact absurd hc hc2
  · refine v_iload2 X dX5_even_48 rfl ?_
    refine v_goto (tgt := 53) X dX5_even_49 (by decide) ?_
    refine v_istore5 X rfl (Nat.le_of_ble_eq_true rfl) dX5_even_53 ?_
    refine v_iload X dX5_even_55 rfl ?_
    refine v_if_le (tgt := 64) X dX5_even_57 (by decide) (fun hc2 => ?_) (fun hc2 => ?_)
    · exact absurd hc2 hc
    refine v_iload3 X dX5_even_60 rfl ?_
    refine v_goto (tgt := 65) X dX5_even_61 (by decide) ?_
    refine v_istore6 X rfl (Nat.le_of_ble_eq_true rfl) dX5_even_65 ?_
    exact hG _ _ hA hB (mE_1 ho hp (Int32.not_le.mp hc))
