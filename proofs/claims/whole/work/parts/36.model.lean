/-! the model's world: the object at 54, its arrays behind it -/
def iA (cy : Nat → ClassId) (N : Nat) (f : Nat → Int32) : va_E := .inl (cy 0, N, .inl f)
def gM0 (e0 e1 e2 e3 e4 e5 e6 : va_E) (g : Nat → va_E) : Nat → va_E := fun k => if k = 54 then e0 else if k = 55 then e1 else if k = 56 then e2 else if k = 57 then e3 else if k = 58 then e4 else if k = 59 then e5 else if k = 60 then e6 else g k
section GM0
variable {e0 e1 e2 e3 e4 e5 e6 e : va_E} {g : Nat → va_E}
theorem gM0_0 : va_up (gM0 e0 e1 e2 e3 e4 e5 e6 g) 54 e = gM0 e e1 e2 e3 e4 e5 e6 g := by
  funext k
  by_cases h : k = 54
  · subst h; rw [va_up_self]; rfl
  · rw [va_up_ne _ _ h]; unfold gM0; rw [if_neg h, if_neg h]
theorem gM0_1 : va_up (gM0 e0 e1 e2 e3 e4 e5 e6 g) 55 e = gM0 e0 e e2 e3 e4 e5 e6 g := by
  funext k
  by_cases h : k = 55
  · subst h; rw [va_up_self]; rfl
  · rw [va_up_ne _ _ h]; unfold gM0; rw [if_neg h, if_neg h]
theorem gM0_2 : va_up (gM0 e0 e1 e2 e3 e4 e5 e6 g) 56 e = gM0 e0 e1 e e3 e4 e5 e6 g := by
  funext k
  by_cases h : k = 56
  · subst h; rw [va_up_self]; rfl
  · rw [va_up_ne _ _ h]; unfold gM0; rw [if_neg h, if_neg h]
theorem gM0_3 : va_up (gM0 e0 e1 e2 e3 e4 e5 e6 g) 57 e = gM0 e0 e1 e2 e e4 e5 e6 g := by
  funext k
  by_cases h : k = 57
  · subst h; rw [va_up_self]; rfl
  · rw [va_up_ne _ _ h]; unfold gM0; rw [if_neg h, if_neg h]
theorem gM0_4 : va_up (gM0 e0 e1 e2 e3 e4 e5 e6 g) 58 e = gM0 e0 e1 e2 e3 e e5 e6 g := by
  funext k
  by_cases h : k = 58
  · subst h; rw [va_up_self]; rfl
  · rw [va_up_ne _ _ h]; unfold gM0; rw [if_neg h, if_neg h]
theorem gM0_5 : va_up (gM0 e0 e1 e2 e3 e4 e5 e6 g) 59 e = gM0 e0 e1 e2 e3 e4 e e6 g := by
  funext k
  by_cases h : k = 59
  · subst h; rw [va_up_self]; rfl
  · rw [va_up_ne _ _ h]; unfold gM0; rw [if_neg h, if_neg h]
theorem gM0_6 : va_up (gM0 e0 e1 e2 e3 e4 e5 e6 g) 60 e = gM0 e0 e1 e2 e3 e4 e5 e g := by
  funext k
  by_cases h : k = 60
  · subst h; rw [va_up_self]; rfl
  · rw [va_up_ne _ _ h]; unfold gM0; rw [if_neg h, if_neg h]
theorem gM0_o {k : Nat} (h : k < 54 ∨ 61 ≤ k) : gM0 e0 e1 e2 e3 e4 e5 e6 g k = g k := by
  unfold gM0
  rw [if_neg (by omega), if_neg (by omega), if_neg (by omega), if_neg (by omega), if_neg (by omega), if_neg (by omega), if_neg (by omega)]
theorem gM0_up {k : Nat} (h : k < 54 ∨ 61 ≤ k) : va_up (gM0 e0 e1 e2 e3 e4 e5 e6 g) k e = gM0 e0 e1 e2 e3 e4 e5 e6 (va_up g k e) := by
  funext j
  by_cases hj : j = k
  · subst hj; rw [va_up_self, gM0_o h, va_up_self]
  · rw [va_up_ne _ _ hj]; unfold gM0; rw [va_up_ne _ _ hj]
end GM0
/-- rows of c numbers, N of them -/
def vG (c N : Nat) (hs : Nat → Nat → Int32) : Nat → Int32 := fun j => if j / c < N then hs (j / c) (j % c) else 0
theorem vG_at {c N : Nat} {hs : Nat → Nat → Int32} {h w : Nat} (hh : h < N) (hw : w < c) : vG c N hs (c * h + w) = hs h w := by
  have hc : 0 < c := by omega
  have e1 : (c * h + w) / c = h := by rw [Nat.mul_add_div hc, Nat.div_eq_of_lt hw]; omega
  have e2 : (c * h + w) % c = w := by rw [Nat.mul_add_mod, Nat.mod_eq_of_lt hw]
  unfold vG
  rw [e1, e2, if_pos hh]
theorem vG_up {c N : Nat} {hs : Nat → Nat → Int32} {h w : Nat} {x : Int32} (hh : h < N) (hw : w < c) : upd (vG c N hs) (c * h + w) x = vG c N (va_up hs h (upd (hs h) w x)) := by
  have hc : 0 < c := by omega
  funext j
  by_cases hj : j = c * h + w
  · subst hj
    rw [upd_s, vG_at hh hw, va_up_self, upd_s]
  · rw [upd_n _ _ hj]
    unfold vG
    split
    · by_cases h1 : j / c = h
      · rw [h1, va_up_self]
        by_cases h2 : j % c = w
        · exact absurd (by rw [← h1, ← h2]; exact (Nat.div_add_mod j c).symm) hj
        · rw [upd_n _ _ h2]
      · rw [va_up_ne _ _ h1]
    · rfl
def gM (cy : Nat → ClassId) (ad : Nat → Nat) (th : Int32) (ra le : Nat → Int32) (S : tS) (g : Nat → va_E) : Nat → va_E := gM0 (cM ad 54 th (nI (sN S)) (nI (sP S))) (iA cy 28 ra) (iA cy 28 le) (iA cy 100 (vG 10 (sN S) (sH S))) (iA cy 60 (vG 5 (sP S) (sQ S))) (iA cy 100 (sF S)) (iA cy 5 (sM S)) g
section GM
variable {cy : Nat → ClassId} {ad : Nat → Nat} {n : Nat} {th : Int32} {ra le : Nat → Int32} {S : tS} {g : Nat → va_E}
theorem gM_t (h : 61 ≤ n) : vAt n (gM cy ad th ra le S g) 54 (cM ad 54 th (nI (sN S)) (nI (sP S))) := ⟨by omega, rfl⟩
theorem gM_r (h : 61 ≤ n) : vAt n (gM cy ad th ra le S g) 55 (iA cy 28 ra) := ⟨by omega, rfl⟩
theorem gM_e (h : 61 ≤ n) : vAt n (gM cy ad th ra le S g) 56 (iA cy 28 le) := ⟨by omega, rfl⟩
theorem gM_v (h : 61 ≤ n) : vAt n (gM cy ad th ra le S g) 57 (iA cy 100 (vG 10 (sN S) (sH S))) := ⟨by omega, rfl⟩
theorem gM_l (h : 61 ≤ n) : vAt n (gM cy ad th ra le S g) 58 (iA cy 60 (vG 5 (sP S) (sQ S))) := ⟨by omega, rfl⟩
theorem gM_f (h : 61 ≤ n) : vAt n (gM cy ad th ra le S g) 59 (iA cy 100 (sF S)) := ⟨by omega, rfl⟩
theorem gM_m (h : 61 ≤ n) : vAt n (gM cy ad th ra le S g) 60 (iA cy 5 (sM S)) := ⟨by omega, rfl⟩
theorem gM_o {k : Nat} (h : k < 54 ∨ 61 ≤ k) : gM cy ad th ra le S g k = g k := gM0_o h
theorem gM_upT {t2 : Int32} : va_up (gM cy ad th ra le S g) 54 (cM ad 54 t2 (nI (sN S)) (nI (sP S))) = gM cy ad t2 ra le S g := gM0_0
theorem gM_upV {h w : Nat} {x : Int32} (hh : h < sN S) (hw : w < 10) : va_up (gM cy ad th ra le S g) 57 (iA cy 100 (upd (vG 10 (sN S) (sH S)) (10 * h + w) x)) = gM cy ad th ra le (setH S (va_up (sH S) h (upd (sH S h) w x))) g := by
  rw [vG_up hh hw]
  exact gM0_3
theorem gM_upL {h w : Nat} {x : Int32} (hh : h < sP S) (hw : w < 5) : va_up (gM cy ad th ra le S g) 58 (iA cy 60 (upd (vG 5 (sP S) (sQ S)) (5 * h + w) x)) = gM cy ad th ra le (setQ S (va_up (sQ S) h (upd (sQ S h) w x))) g := by
  rw [vG_up hh hw]
  exact gM0_4
theorem gM_upF {f : Nat → Int32} : va_up (gM cy ad th ra le S g) 59 (iA cy 100 f) = gM cy ad th ra le (setF S f) g := gM0_5
theorem gM_upM {f : Nat → Int32} : va_up (gM cy ad th ra le S g) 60 (iA cy 5 f) = gM cy ad th ra le (setM S f) g := gM0_6
end GM
theorem nI_mul (a b : Nat) : nI a * nI b = nI (a * b) := (Int32.ofNat_mul a b).symm
theorem ix10 (h w : Nat) : (10 : Int32) * nI h + nI w = nI (10 * h + w) := by rw [show (10 : Int32) = nI 10 from rfl, nI_mul, nI_add]
theorem ix5 (h w : Nat) : (5 : Int32) * nI h + nI w = nI (5 * h + w) := by rw [show (5 : Int32) = nI 5 from rfl, nI_mul, nI_add]
theorem has_in {N : Nat} (hN : N < 100) (x : Int32) : inB x 0 (nI N - 1) = hasB N x := by
  have e : (nI N - 1).toInt = (N : Int) - 1 := by
    rw [Int32.toInt_sub, nI_toInt (by omega)]
    show ((N : Int) - 1).bmod _ = _
    exact Int.bmod_eq_of_le (by omega) (by omega)
  have e2 : (nI N).toInt = N := nI_toInt (by omega)
  unfold inB hasB
  by_cases h1 : x < 0
  · rw [if_pos h1, if_pos h1]
  · rw [if_neg h1, if_neg h1]
    have e3 : (nI N - 1 < x) ↔ nI N ≤ x := by
      rw [Int32.lt_iff_toInt_lt, Int32.le_iff_toInt_le, e, e2]
      omega
    by_cases h2 : nI N ≤ x
    · rw [if_pos h2, if_pos (e3.mpr h2)]
    · rw [if_neg h2, if_neg (fun q => h2 (e3.mp q))]
set_option maxRecDepth 100000 in
set_option maxHeartbeats 4000000 in
theorem m_isIn (l : Launch) {z0 n : Nat} {D : va_G} {cy : Nat → ClassId} {ad : Nat → Nat} {g : Nat → va_E} {x a b : Int32} : Ct0 l yX5_isIn cX5_isIn 3 (some FieldType.boolean) 0 0 z0 D cy n ad g [.int x, .int a, .int b] (some (.int (inB x a b))) g := by
  refine ct_of (by decide +kernel) 0 [some (.int x), some (.int a), some (.int b)] (Nat.le_of_ble_eq_true rfl) rfl ?_
  intro p e s m below meth c X hr hlk hnm
  refine v_iload0 X dX5_isIn_0 rfl ?_
  refine v_iload1 X dX5_isIn_1 rfl ?_
  refine v_icmp_lt (tgt := 14) X dX5_isIn_2 (by decide) (fun h1 => ?_) (fun h1 => ?_)
  · refine v_ico (v := 0) X dX5_isIn_14 (by decide) ?_
    exact v_zret X hr hlk dX5_isIn_15 rfl ⟨by unfold inB; rw [if_pos h1], rfl, rfl, rfl⟩
  · refine v_iload0 X dX5_isIn_5 rfl ?_
    refine v_iload2 X dX5_isIn_6 rfl ?_
    refine v_icmp_gt (tgt := 14) X dX5_isIn_7 (by decide) (fun h2 => ?_) (fun h2 => ?_)
    · refine v_ico (v := 0) X dX5_isIn_14 (by decide) ?_
      exact v_zret X hr hlk dX5_isIn_15 rfl ⟨by unfold inB; rw [if_neg h1, if_pos h2], rfl, rfl, rfl⟩
    · refine v_ico (v := 1) X dX5_isIn_10 (by decide) ?_
      refine v_goto (tgt := 15) X dX5_isIn_11 (by decide) ?_
      exact v_zret X hr hlk dX5_isIn_15 rfl ⟨by unfold inB; rw [if_neg h1, if_neg h2], rfl, rfl, rfl⟩
theorem inB_b {x a b : Int32} : narrow .boolean (.int (inB x a b)) = .int (inB x a b) := by
  unfold inB
  split
  · rfl
  · split <;> rfl
set_option maxRecDepth 100000 in
set_option maxHeartbeats 4000000 in
theorem m_thrown (l : Launch) {z0 n : Nat} {D : va_G} {cy : Nat → ClassId} {ad : Nat → Nat} {th : Int32} {ra le : Nat → Int32} {S : tS} {g : Nat → va_E} (hn : 61 ≤ n) : Ct0 l yX5_thrown cX5_thrown 1 (some FieldType.int) 0 0 z0 D cy n ad (gM cy ad th ra le S g) [.ref (ad 54)] (some (.int th)) (gM cy ad th ra le S g) := by
  refine ct_of (by decide +kernel) 0 [some (.ref (ad 54))] (Nat.le_of_ble_eq_true rfl) rfl ?_
  intro p e s m below meth c X hr hlk hnm
  refine v_aload0 X dX5_thrown_0 rfl ?_
  refine gf_X5_28 X dX5_thrown_1 (gM_t hn) ?_
  exact v_iret X hr hlk dX5_thrown_4 ⟨rfl, rfl, rfl, rfl⟩
set_option maxRecDepth 100000 in
set_option maxHeartbeats 4000000 in
theorem m_fail (l : Launch) {z0 n : Nat} {D : va_G} {cy : Nat → ClassId} {ad : Nat → Nat} {th t2 : Int32} {ra le : Nat → Int32} {S : tS} {g : Nat → va_E} (hn : 61 ≤ n) : Ct0 l yX5_fail cX5_fail 2 (some FieldType.int) 0 0 z0 D cy n ad (gM cy ad th ra le S g) [.ref (ad 54), .int t2] (some (.int 0)) (gM cy ad t2 ra le S g) := by
  refine ct_of (by decide +kernel) 0 [some (.ref (ad 54)), some (.int t2)] (Nat.le_of_ble_eq_true rfl) rfl ?_
  intro p e s m below meth c X hr hlk hnm
  refine v_aload0 X dX5_fail_0 rfl ?_
  refine v_iload1 X dX5_fail_1 rfl ?_
  refine pf_X5_28 X dX5_fail_2 (gM_t hn) ?_
  refine vV.gg (gM_upT) ?_
  refine v_ico (v := 0) X dX5_fail_5 (by decide) ?_
  exact v_iret X hr hlk dX5_fail_6 ⟨rfl, rfl, rfl, rfl⟩
set_option maxRecDepth 100000 in
set_option maxHeartbeats 4000000 in
theorem m_isHouse (l : Launch) {z0 n : Nat} {D : va_G} {cy : Nat → ClassId} {ad : Nat → Nat} {th x : Int32} {ra le : Nat → Int32} {S : tS} {g : Nat → va_E} (hn : 61 ≤ n) (hN : sN S ≤ 10) : Ct0 l yX5_isHouse cX5_isHouse 2 (some FieldType.boolean) 1 22 z0 D cy n ad (gM cy ad th ra le S g) [.ref (ad 54), .int x] (some (.int (hasB (sN S) x))) (gM cy ad th ra le S g) := by
  refine ct_of (by decide +kernel) 0 [some (.ref (ad 54)), some (.int x)] (Nat.le_of_ble_eq_true rfl) rfl ?_
  intro p e s m below meth c X hr hlk hnm
  refine v_iload1 X dX5_isHouse_0 rfl ?_
  refine v_ico (v := 0) X dX5_isHouse_1 (by decide) ?_
  refine v_aload0 X dX5_isHouse_2 rfl ?_
  refine gf_X5_32 X dX5_isHouse_3 (gM_t hn) ?_
  refine v_ico (v := 1) X dX5_isHouse_6 (by decide) ?_
  refine v_isub X dX5_isHouse_7 ?_
  refine cd_X5_35 X dX5_isHouse_8 (m_isIn l) (Nat.le_of_ble_eq_true rfl) ⟨(Nat.le_of_ble_eq_true rfl), (Nat.le_of_ble_eq_true rfl), (Nat.le_of_ble_eq_true rfl), (Nat.le_of_ble_eq_true rfl)⟩ ?_
  refine vV.top (congrArg Value.int (has_in (by omega) x)) ?_
  exact v_zret X hr hlk dX5_isHouse_11 (by rw [← has_in (by omega) x]; exact inB_b) ⟨rfl, rfl, rfl, rfl⟩
set_option maxRecDepth 100000 in
set_option maxHeartbeats 4000000 in
theorem m_isPipe (l : Launch) {z0 n : Nat} {D : va_G} {cy : Nat → ClassId} {ad : Nat → Nat} {th x : Int32} {ra le : Nat → Int32} {S : tS} {g : Nat → va_E} (hn : 61 ≤ n) (hN : sP S ≤ 12) : Ct0 l yX5_isPipe cX5_isPipe 2 (some FieldType.boolean) 1 22 z0 D cy n ad (gM cy ad th ra le S g) [.ref (ad 54), .int x] (some (.int (hasB (sP S) x))) (gM cy ad th ra le S g) := by
  refine ct_of (by decide +kernel) 0 [some (.ref (ad 54)), some (.int x)] (Nat.le_of_ble_eq_true rfl) rfl ?_
  intro p e s m below meth c X hr hlk hnm
  refine v_iload1 X dX5_isPipe_0 rfl ?_
  refine v_ico (v := 0) X dX5_isPipe_1 (by decide) ?_
  refine v_aload0 X dX5_isPipe_2 rfl ?_
  refine gf_X5_39 X dX5_isPipe_3 (gM_t hn) ?_
  refine v_ico (v := 1) X dX5_isPipe_6 (by decide) ?_
  refine v_isub X dX5_isPipe_7 ?_
  refine cd_X5_35 X dX5_isPipe_8 (m_isIn l) (Nat.le_of_ble_eq_true rfl) ⟨(Nat.le_of_ble_eq_true rfl), (Nat.le_of_ble_eq_true rfl), (Nat.le_of_ble_eq_true rfl), (Nat.le_of_ble_eq_true rfl)⟩ ?_
  refine vV.top (congrArg Value.int (has_in (by omega) x)) ?_
  exact v_zret X hr hlk dX5_isPipe_11 (by rw [← has_in (by omega) x]; exact inB_b) ⟨rfl, rfl, rfl, rfl⟩
set_option maxRecDepth 100000 in
set_option maxHeartbeats 4000000 in
theorem m_ho (l : Launch) {z0 n : Nat} {D : va_G} {cy : Nat → ClassId} {ad : Nat → Nat} {h w : Nat} {th : Int32} {ra le : Nat → Int32} {S : tS} {g : Nat → va_E} (hn : 61 ≤ n) (hN : sN S ≤ 10) (hh : h < sN S) (hw : w < 10) : Ct0 l yX5_ho cX5_ho 3 (some FieldType.int) 0 0 z0 D cy n ad (gM cy ad th ra le S g) [.ref (ad 54), .int (nI h), .int (nI w)] (some (.int (sH S h w))) (gM cy ad th ra le S g) := by
  refine ct_of (by decide +kernel) 0 [some (.ref (ad 54)), some (.int (nI h)), some (.int (nI w))] (Nat.le_of_ble_eq_true rfl) rfl ?_
  intro p e s m below meth c X hr hlk hnm
  refine v_aload0 X dX5_ho_0 rfl ?_
  refine gf_X5_16 X dX5_ho_1 (gM_t hn) ?_
  refine v_bip (v := 10) X dX5_ho_4 (by decide) ?_
  refine v_iload1 X dX5_ho_6 rfl ?_
  refine v_imul X dX5_ho_7 ?_
  refine v_iload2 X dX5_ho_8 rfl ?_
  refine v_iadd X dX5_ho_9 ?_
  refine v_iald X dX5_ho_10 (gM_v hn) (ix10 h w) (by omega) (by decide) ?_
  refine vV.top (congrArg Value.int (vG_at hh hw)) ?_
  exact v_iret X hr hlk dX5_ho_11 ⟨rfl, rfl, rfl, rfl⟩
set_option maxRecDepth 100000 in
set_option maxHeartbeats 4000000 in
theorem m_set (l : Launch) {z0 n : Nat} {D : va_G} {cy : Nat → ClassId} {ad : Nat → Nat} {h w : Nat} {th x : Int32} {ra le : Nat → Int32} {S : tS} {g : Nat → va_E} (hn : 61 ≤ n) (hN : sN S ≤ 10) (hh : h < sN S) (hw : w < 10) : Ct0 l yX5_set cX5_set 4 none 0 0 z0 D cy n ad (gM cy ad th ra le S g) [.ref (ad 54), .int (nI h), .int (nI w), .int x] none (gM cy ad th ra le (setH S (va_up (sH S) h (upd (sH S h) w x))) g) := by
  refine ct_of (by decide +kernel) 0 [some (.ref (ad 54)), some (.int (nI h)), some (.int (nI w)), some (.int x)] (Nat.le_of_ble_eq_true rfl) rfl ?_
  intro p e s m below meth c X hr hlk hnm
  refine v_aload0 X dX5_set_0 rfl ?_
  refine gf_X5_16 X dX5_set_1 (gM_t hn) ?_
  refine v_bip (v := 10) X dX5_set_4 (by decide) ?_
  refine v_iload1 X dX5_set_6 rfl ?_
  refine v_imul X dX5_set_7 ?_
  refine v_iload2 X dX5_set_8 rfl ?_
  refine v_iadd X dX5_set_9 ?_
  refine v_iload3 X dX5_set_10 rfl ?_
  refine v_iast X dX5_set_11 (gM_v hn) (ix10 h w) (by omega) (by decide) ?_
  refine vV.gg (gM_upV hh hw) ?_
  exact v_vret X hr hlk dX5_set_12 ⟨rfl, rfl, rfl, rfl⟩
set_option maxRecDepth 100000 in
set_option maxHeartbeats 4000000 in
theorem m_pi (l : Launch) {z0 n : Nat} {D : va_G} {cy : Nat → ClassId} {ad : Nat → Nat} {h w : Nat} {th : Int32} {ra le : Nat → Int32} {S : tS} {g : Nat → va_E} (hn : 61 ≤ n) (hN : sP S ≤ 12) (hh : h < sP S) (hw : w < 5) : Ct0 l yX5_pi cX5_pi 3 (some FieldType.int) 0 0 z0 D cy n ad (gM cy ad th ra le S g) [.ref (ad 54), .int (nI h), .int (nI w)] (some (.int (sQ S h w))) (gM cy ad th ra le S g) := by
  refine ct_of (by decide +kernel) 0 [some (.ref (ad 54)), some (.int (nI h)), some (.int (nI w))] (Nat.le_of_ble_eq_true rfl) rfl ?_
  intro p e s m below meth c X hr hlk hnm
  refine v_aload0 X dX5_pi_0 rfl ?_
  refine gf_X5_19 X dX5_pi_1 (gM_t hn) ?_
  refine v_ico (v := 5) X dX5_pi_4 (by decide) ?_
  refine v_iload1 X dX5_pi_5 rfl ?_
  refine v_imul X dX5_pi_6 ?_
  refine v_iload2 X dX5_pi_7 rfl ?_
  refine v_iadd X dX5_pi_8 ?_
  refine v_iald X dX5_pi_9 (gM_l hn) (ix5 h w) (by omega) (by decide) ?_
  refine vV.top (congrArg Value.int (vG_at hh hw)) ?_
  exact v_iret X hr hlk dX5_pi_10 ⟨rfl, rfl, rfl, rfl⟩
