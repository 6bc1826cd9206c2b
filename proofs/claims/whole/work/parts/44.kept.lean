/-! the model keeps and brings back -/
def fI (ad : Nat → Nat) (b i : Nat) : Nat → Option Nat := fun x => if x < i then some (ad (b + x)) else none
theorem fI_0 {ad : Nat → Nat} {b : Nat} : (fun _ => none) = fI ad b 0 := by
  funext x
  unfold fI
  rw [if_neg (by omega)]
theorem fI_up {ad : Nat → Nat} {b i : Nat} : va_up (fI ad b i) i (some (ad (b + i))) = fI ad b (i + 1) := by
  funext x
  unfold fI
  by_cases h : x = i
  · subst h; rw [va_up_self, if_pos (by omega)]
  · rw [va_up_ne _ _ h]
    by_cases h2 : x < i
    · rw [if_pos h2, if_pos (by omega)]
    · rw [if_neg h2, if_neg (by omega)]
theorem fI_ad {ad ad' : Nat → Nat} {b i : Nat} (h : ∀ x, x < i → ad' (b + x) = ad (b + x)) : fI ad' b i = fI ad b i := by
  funext x
  unfold fI
  by_cases h2 : x < i
  · rw [if_pos h2, if_pos h2, h x h2]
  · rw [if_neg h2, if_neg h2]
theorem fI_at {ad : Nat → Nat} {b i x : Nat} (h : x < i) : fI ad b i x = some (ad (b + x)) := if_pos h
def kC (cy : Nat → ClassId) (S : tS) : Nat → va_E
  | 0 => iA cy 100 (vG 10 (sN S) (sH S))
  | 1 => iA cy 60 (vG 5 (sP S) (sQ S))
  | 2 => iA cy 100 (sF S)
  | _ => iA cy 5 (sM S)
/-- the kept arrays, from b on, i of them -/
def kB (cy : Nat → ClassId) (ad : Nat → Nat) (b i : Nat) (S : tS) (W : Nat → va_E) : Nat → va_E := fun j => if j = b then aA cy 4 (fI ad (b + 1) i) else if b < j then kC cy S (j - b - 1) else W j
theorem kB_b {cy : Nat → ClassId} {ad : Nat → Nat} {b i : Nat} {S : tS} {W : Nat → va_E} : kB cy ad b i S W b = aA cy 4 (fI ad (b + 1) i) := if_pos rfl
theorem kB_lo {cy : Nat → ClassId} {ad : Nat → Nat} {b i j : Nat} {S : tS} {W : Nat → va_E} (h : j < b) : kB cy ad b i S W j = W j := by
  unfold kB; rw [if_neg (by omega), if_neg (by omega)]
theorem kB_hi {cy : Nat → ClassId} {ad : Nat → Nat} {b i x : Nat} {S : tS} {W : Nat → va_E} : kB cy ad b i S W (b + 1 + x) = kC cy S x := by
  unfold kB; rw [if_neg (by omega), if_pos (by omega), show b + 1 + x - b - 1 = x by omega]
theorem kB_s {cy : Nat → ClassId} {ad ad' : Nat → Nat} {b i : Nat} {S : tS} {W W' : Nat → va_E} (h : ∀ j, j < b + 1 + i → ad' j = ad j) (hW : ∀ j, j < b → W' j = W j) : ∀ j, j < b + 1 + i + 1 → kB cy ad' b (i + 1) S W' j = va_up (va_up (kB cy ad b i S W) (b + 1 + i) (kC cy S i)) b (aA cy 4 (va_up (fI ad (b + 1) i) i (some (ad' (b + 1 + i))))) j := by
  intro j hj
  by_cases c1 : j = b
  · subst c1
    rw [va_up_self, kB_b, ← fI_up, fI_ad (fun x hx => h _ (by omega))]
  rw [va_up_ne _ _ c1]
  by_cases c2 : j = b + 1 + i
  · subst c2; rw [va_up_self, kB_hi]
  rw [va_up_ne _ _ c2]
  unfold kB
  rw [if_neg c1, if_neg c1]
  by_cases c3 : b < j
  · rw [if_pos c3, if_pos c3]
  · rw [if_neg c3, if_neg c3, hW j (by omega)]
theorem kB_gM {cy : Nat → ClassId} {ad ad' : Nat → Nat} {b i : Nat} {th : Int32} {ra le : Nat → Int32} {S T : tS} {g : Nat → va_E} (hb : 61 ≤ b) : kB cy ad b i S (gM cy ad' th ra le T g) = gM cy ad' th ra le T (kB cy ad b i S g) := by
  funext j
  by_cases c : j < 54 ∨ 61 ≤ j
  · rw [gM_o c]
    unfold kB
    rw [gM_o c]
  · rw [kB_lo (by omega)]
    unfold gM gM0
    by_cases c1 : j = 54
    · rw [if_pos c1, if_pos c1]
    by_cases c2 : j = 55
    · rw [if_neg c1, if_neg c1, if_pos c2, if_pos c2]
    by_cases c3 : j = 56
    · rw [if_neg c1, if_neg c1, if_neg c2, if_neg c2, if_pos c3, if_pos c3]
    by_cases c4 : j = 57
    · rw [if_neg c1, if_neg c1, if_neg c2, if_neg c2, if_neg c3, if_neg c3, if_pos c4, if_pos c4]
    by_cases c5 : j = 58
    · rw [if_neg c1, if_neg c1, if_neg c2, if_neg c2, if_neg c3, if_neg c3, if_neg c4, if_neg c4, if_pos c5, if_pos c5]
    by_cases c6 : j = 59
    · rw [if_neg c1, if_neg c1, if_neg c2, if_neg c2, if_neg c3, if_neg c3, if_neg c4, if_neg c4, if_neg c5, if_neg c5, if_pos c6, if_pos c6]
    by_cases c7 : j = 60
    · rw [if_neg c1, if_neg c1, if_neg c2, if_neg c2, if_neg c3, if_neg c3, if_neg c4, if_neg c4, if_neg c5, if_neg c5, if_neg c6, if_neg c6, if_pos c7, if_pos c7]
    omega
/-- what kept leaves -/
def PK (cy : Nat → ClassId) (ad : Nat → Nat) (n : Nat) (th : Int32) (ra le : Nat → Int32) (S : tS) (g : Nat → va_E) : CtP := fun r n' ad' g' => r = some (.ref (ad' n)) ∧ n' = n + 5 ∧ (∀ j, j < n → ad' j = ad j) ∧ g' = gM cy ad' th ra le S (kB cy ad' n 4 S g)
set_option maxRecDepth 100000 in
set_option maxHeartbeats 4000000 in
theorem m_kept (l : Launch) {z0 n : Nat} {D : va_G} {cy : Nat → ClassId} {ad : Nat → Nat} {th : Int32} {ra le : Nat → Int32} {S : tS} {g : Nat → va_E} (hn : 61 ≤ n) : CtG l yX5_kept cX5_kept 1 (some (FieldType.array (FieldType.array FieldType.int))) { frames := 1, cells := 5, slots := 269, locals := 40 } z0 D cy n ad (gM cy ad th ra le S g) [.ref (ad 54)] (PK cy ad n th ra le S g) 5 269 := by
  refine ct_of (by decide +kernel) 0 [some (.ref (ad 54))] (Nat.le_of_ble_eq_true rfl) rfl ?_
  intro p e s m below meth c X hr hlk hnm
  generalize ([.ref (ad 54)] : List Value).toArray = A at X ⊢
  have hO := X.2.2.2.2.2.2.2.2.2.2.1.2.2
  generalize hQ : MQ below (QcR z0 D (PK cy ad n th ra le S g)) A s 5 269 (fun q => z0 ≤ q) = Q
  refine v_ico (v := 4) X dX5_kept_0 (by decide) ?_
  refine v_newA (N := 4) X rfl (by omega) wk_X5_101 hO ⟨Nat.le_of_ble_eq_true rfl, Nat.le_of_ble_eq_true rfl⟩ dX5_kept_1 ?_
  intro ad0 a0
  rw [← a0 54 (by omega)]
  refine vV.eqw (ad' := ad0) (g' := kB cy ad0 n 0 S (gM cy ad0 th ra le S g)) (fun _ _ => rfl) (fun j hj => ?_) ?_
  · by_cases c1 : j = n
    · subst c1; rw [kB_b, va_up_self, ← fI_0]
    · rw [va_up_ne _ _ c1, kB_lo (by omega), gM_ad (fun j hj => a0 j (by omega))]
  have h54_0 : vAt (n + 1 + 0) (kB cy ad0 n 0 S (gM cy ad0 th ra le S g)) 54 (cM ad0 54 th (nI (sN S)) (nI (sP S))) := ⟨by omega, (kB_lo (by omega)).trans rfl⟩
  refine v_dup X dX5_kept_4 rfl ?_
  refine v_ico (v := nI 0) X dX5_kept_5 (by decide) ?_
  refine v_aload0 X dX5_kept_6 rfl ?_
  refine gf_X5_16 X dX5_kept_7 h54_0 ?_
  refine v_clone (k := 57) X wm_X5_102 dX5_kept_10 (f := vG 10 (sN S) (sH S)) (N := 100) ⟨by omega, (kB_lo (by omega)).trans rfl⟩ (Nat.le_of_ble_eq_true rfl) ⟨Nat.le_of_ble_eq_true rfl, Nat.le_of_ble_eq_true rfl, Nat.le_of_ble_eq_true rfl, Nat.le_of_ble_eq_true rfl⟩ ?_
  intro ad1 a1
  rw [← a1 54 (by omega), ← a1 n (by omega)]
  refine v_castI (k := n + 1 + 0) X wk_X5_101 dX5_kept_13 ⟨by omega, va_up_self _ _ _⟩ ?_
  refine v_aastA (k := n) (kv := n + 1 + 0) (j := 0) X hO dX5_kept_16 ⟨by omega, (va_up_ne _ _ (by omega)).trans kB_b⟩ ⟨by omega, va_up_self _ _ _⟩ rfl (by decide) (by decide) ?_
  refine vV.eqw (ad' := ad1) (g' := kB cy ad1 n 1 S (gM cy ad1 th ra le S g)) (fun _ _ => rfl) (kB_s (i := 0) a1 (fun j hj => by rw [gM_ad (fun j hj => a1 j (by omega))])) ?_
  have h54_1 : vAt (n + 1 + 1) (kB cy ad1 n 1 S (gM cy ad1 th ra le S g)) 54 (cM ad1 54 th (nI (sN S)) (nI (sP S))) := ⟨by omega, (kB_lo (by omega)).trans rfl⟩
  refine v_dup X dX5_kept_17 rfl ?_
  refine v_ico (v := nI 1) X dX5_kept_18 (by decide) ?_
  refine v_aload0 X dX5_kept_19 rfl ?_
  refine gf_X5_19 X dX5_kept_20 h54_1 ?_
  refine v_clone (k := 58) X wm_X5_102 dX5_kept_23 (f := vG 5 (sP S) (sQ S)) (N := 60) ⟨by omega, (kB_lo (by omega)).trans rfl⟩ (Nat.le_of_ble_eq_true rfl) ⟨Nat.le_of_ble_eq_true rfl, Nat.le_of_ble_eq_true rfl, Nat.le_of_ble_eq_true rfl, Nat.le_of_ble_eq_true rfl⟩ ?_
  intro ad2 a2
  rw [← a2 54 (by omega), ← a2 n (by omega)]
  refine v_castI (k := n + 1 + 1) X wk_X5_101 dX5_kept_26 ⟨by omega, va_up_self _ _ _⟩ ?_
  refine v_aastA (k := n) (kv := n + 1 + 1) (j := 1) X hO dX5_kept_29 ⟨by omega, (va_up_ne _ _ (by omega)).trans kB_b⟩ ⟨by omega, va_up_self _ _ _⟩ rfl (by decide) (by decide) ?_
  refine vV.eqw (ad' := ad2) (g' := kB cy ad2 n 2 S (gM cy ad2 th ra le S g)) (fun _ _ => rfl) (kB_s (i := 1) a2 (fun j hj => by rw [gM_ad (fun j hj => a2 j (by omega))])) ?_
  have h54_2 : vAt (n + 1 + 2) (kB cy ad2 n 2 S (gM cy ad2 th ra le S g)) 54 (cM ad2 54 th (nI (sN S)) (nI (sP S))) := ⟨by omega, (kB_lo (by omega)).trans rfl⟩
  refine v_dup X dX5_kept_30 rfl ?_
  refine v_ico (v := nI 2) X dX5_kept_31 (by decide) ?_
  refine v_aload0 X dX5_kept_32 rfl ?_
  refine gf_X5_22 X dX5_kept_33 h54_2 ?_
  refine v_clone (k := 59) X wm_X5_102 dX5_kept_36 (f := sF S) (N := 100) ⟨by omega, (kB_lo (by omega)).trans rfl⟩ (Nat.le_of_ble_eq_true rfl) ⟨Nat.le_of_ble_eq_true rfl, Nat.le_of_ble_eq_true rfl, Nat.le_of_ble_eq_true rfl, Nat.le_of_ble_eq_true rfl⟩ ?_
  intro ad3 a3
  rw [← a3 54 (by omega), ← a3 n (by omega)]
  refine v_castI (k := n + 1 + 2) X wk_X5_101 dX5_kept_39 ⟨by omega, va_up_self _ _ _⟩ ?_
  refine v_aastA (k := n) (kv := n + 1 + 2) (j := 2) X hO dX5_kept_42 ⟨by omega, (va_up_ne _ _ (by omega)).trans kB_b⟩ ⟨by omega, va_up_self _ _ _⟩ rfl (by decide) (by decide) ?_
  refine vV.eqw (ad' := ad3) (g' := kB cy ad3 n 3 S (gM cy ad3 th ra le S g)) (fun _ _ => rfl) (kB_s (i := 2) a3 (fun j hj => by rw [gM_ad (fun j hj => a3 j (by omega))])) ?_
  have h54_3 : vAt (n + 1 + 3) (kB cy ad3 n 3 S (gM cy ad3 th ra le S g)) 54 (cM ad3 54 th (nI (sN S)) (nI (sP S))) := ⟨by omega, (kB_lo (by omega)).trans rfl⟩
  refine v_dup X dX5_kept_43 rfl ?_
  refine v_ico (v := nI 3) X dX5_kept_44 (by decide) ?_
  refine v_aload0 X dX5_kept_45 rfl ?_
  refine gf_X5_25 X dX5_kept_46 h54_3 ?_
  refine v_clone (k := 60) X wm_X5_102 dX5_kept_49 (f := sM S) (N := 5) ⟨by omega, (kB_lo (by omega)).trans rfl⟩ (Nat.le_of_ble_eq_true rfl) ⟨Nat.le_of_ble_eq_true rfl, Nat.le_of_ble_eq_true rfl, Nat.le_of_ble_eq_true rfl, Nat.le_of_ble_eq_true rfl⟩ ?_
  intro ad4 a4
  rw [← a4 54 (by omega), ← a4 n (by omega)]
  refine v_castI (k := n + 1 + 3) X wk_X5_101 dX5_kept_52 ⟨by omega, va_up_self _ _ _⟩ ?_
  refine v_aastA (k := n) (kv := n + 1 + 3) (j := 3) X hO dX5_kept_55 ⟨by omega, (va_up_ne _ _ (by omega)).trans kB_b⟩ ⟨by omega, va_up_self _ _ _⟩ rfl (by decide) (by decide) ?_
  refine vV.eqw (ad' := ad4) (g' := kB cy ad4 n 4 S (gM cy ad4 th ra le S g)) (fun _ _ => rfl) (kB_s (i := 3) a4 (fun j hj => by rw [gM_ad (fun j hj => a4 j (by omega))])) ?_
  refine vV.gg (kB_gM (by omega)) ?_
  rw [← hQ]
  exact v_aret X hr (Or.inr ⟨_, rfl⟩) hlk dX5_kept_56 ⟨rfl, rfl, fun j hj => by rw [a4 j (by omega), a3 j (by omega), a2 j (by omega), a1 j (by omega), a0 j (by omega)], rfl⟩
theorem cpy_all {f h : Nat → Int32} {q : Nat} (hh : ∀ k, q ≤ k → h k = f k) : va_cpy f h 0 0 q = f := by
  funext k
  unfold va_cpy
  by_cases c : k < q
  · rw [if_pos (by omega), Nat.zero_add, Nat.sub_zero]
  · rw [if_neg (by omega), hh k (by omega)]
theorem vG_hi {c N : Nat} {hs hs' : Nat → Nat → Int32} {q : Nat} (hc : 0 < c) (hq : c * N ≤ q) : ∀ k, q ≤ k → vG c N hs' k = vG c N hs k := by
  intro k hk
  unfold vG
  have : N ≤ k / c := by rw [Nat.le_div_iff_mul_le hc, Nat.mul_comm]; omega
  rw [if_neg (by omega), if_neg (by omega)]
set_option maxRecDepth 100000 in
set_option maxHeartbeats 4000000 in
theorem m_bring (l : Launch) {z0 n : Nat} {D : va_G} {cy : Nat → ClassId} {ad : Nat → Nat} {b : Nat} {th : Int32} {ra le : Nat → Int32} {S : tS} {hs qs : Nat → Nat → Int32} {fs ms : Nat → Int32} {g : Nat → va_E} (hb : 61 ≤ b) (hn : b + 5 ≤ n) (hN : sN S ≤ 10) (hP : sP S ≤ 12) (hF : ∀ k, 100 ≤ k → fs k = sF S k) (hM : ∀ k, 5 ≤ k → ms k = sM S k) (hk : vAt n g b (aA cy 4 (fI ad (b + 1) 4))) (hc : ∀ x, x < 4 → vAt n g (b + 1 + x) (kC cy S x)) : CtG l yX5_bringBack cX5_bringBack 4 none { frames := 1, cells := 1, slots := 4, locals := 40 } z0 D cy n ad (gM cy ad th ra le (sN S, sP S, hs, qs, fs, ms) g) [.ref (ad 54), .ref (ad b)] (isR none n ad (gM cy ad th ra le S g)) 1 4 := by
  refine ct_of (by decide +kernel) 2 [some (.ref (ad 54)), some (.ref (ad b)), none, none] (Nat.le_of_ble_eq_true rfl) rfl ?_
  intro p e s m below meth c X hr hlk hnm
  generalize ([.ref (ad 54), .ref (ad b)] : List Value).toArray = A at X ⊢
  have hO := X.2.2.2.2.2.2.2.2.2.2.1.2.2
  generalize hQ : MQ below (QcR z0 D (isR none n ad (gM cy ad th ra le S g))) A s 1 4 (fun q => z0 ≤ q) = Q
  refine v_ico (v := 4) X dX5_bringBack_0 (by decide) ?_
  refine v_newA (N := 4) X rfl (by omega) wk_X5_101 hO ⟨Nat.le_of_ble_eq_true rfl, Nat.le_of_ble_eq_true rfl⟩ dX5_bringBack_1 ?_
  intro ad0 a0
  rw [← a0 54 (by omega), ← a0 b (by omega), fI_0 (ad := ad0) (b := 57), ← gM_ad (fun j hj => a0 j (by omega))]
  have hk0 : vAt n g b (aA cy 4 (fI ad0 (b + 1) 4)) := ⟨hk.1, by rw [hk.2, fI_ad (fun x hx => a0 _ (by omega))]⟩
  refine v_dup X dX5_bringBack_4 rfl ?_
  refine v_ico (v := nI 0) X dX5_bringBack_5 (by decide) ?_
  refine v_aload0 X dX5_bringBack_6 rfl ?_
  refine gf_X5_16 X dX5_bringBack_7 (vAt.ne (gM_t (by omega)) (by omega)) ?_
  refine v_aastA (k := n) (kv := 57) (j := 0) X hO dX5_bringBack_10 ⟨by omega, va_up_self _ _ _⟩ (vAt.ne (gM_v (by omega)) (by omega)) rfl (by decide) (by decide) ?_
  refine vV.gg (va_up_up _ _ _ _) ?_
  rw [show va_up (fI ad0 57 0) 0 (some (ad0 57)) = fI ad0 57 1 from fI_up]
  refine v_dup X dX5_bringBack_11 rfl ?_
  refine v_ico (v := nI 1) X dX5_bringBack_12 (by decide) ?_
  refine v_aload0 X dX5_bringBack_13 rfl ?_
  refine gf_X5_19 X dX5_bringBack_14 (vAt.ne (gM_t (by omega)) (by omega)) ?_
  refine v_aastA (k := n) (kv := 58) (j := 1) X hO dX5_bringBack_17 ⟨by omega, va_up_self _ _ _⟩ (vAt.ne (gM_l (by omega)) (by omega)) rfl (by decide) (by decide) ?_
  refine vV.gg (va_up_up _ _ _ _) ?_
  rw [show va_up (fI ad0 57 1) 1 (some (ad0 58)) = fI ad0 57 2 from fI_up]
  refine v_dup X dX5_bringBack_18 rfl ?_
  refine v_ico (v := nI 2) X dX5_bringBack_19 (by decide) ?_
  refine v_aload0 X dX5_bringBack_20 rfl ?_
  refine gf_X5_22 X dX5_bringBack_21 (vAt.ne (gM_t (by omega)) (by omega)) ?_
  refine v_aastA (k := n) (kv := 59) (j := 2) X hO dX5_bringBack_24 ⟨by omega, va_up_self _ _ _⟩ (vAt.ne (gM_f (by omega)) (by omega)) rfl (by decide) (by decide) ?_
  refine vV.gg (va_up_up _ _ _ _) ?_
  rw [show va_up (fI ad0 57 2) 2 (some (ad0 59)) = fI ad0 57 3 from fI_up]
  refine v_dup X dX5_bringBack_25 rfl ?_
  refine v_ico (v := nI 3) X dX5_bringBack_26 (by decide) ?_
  refine v_aload0 X dX5_bringBack_27 rfl ?_
  refine gf_X5_25 X dX5_bringBack_28 (vAt.ne (gM_t (by omega)) (by omega)) ?_
  refine v_aastA (k := n) (kv := 60) (j := 3) X hO dX5_bringBack_31 ⟨by omega, va_up_self _ _ _⟩ (vAt.ne (gM_m (by omega)) (by omega)) rfl (by decide) (by decide) ?_
  refine vV.gg (va_up_up _ _ _ _) ?_
  rw [show va_up (fI ad0 57 3) 3 (some (ad0 60)) = fI ad0 57 4 from fI_up]
  refine v_astore2 X rfl (Nat.le_of_ble_eq_true rfl) dX5_bringBack_32 ?_
  refine v_ico (v := 0) X dX5_bringBack_33 (by decide) ?_
  refine v_istore3 X rfl (Nat.le_of_ble_eq_true rfl) dX5_bringBack_34 ?_
  have hA0 : ∀ {W : tS}, vAt (n + 1) (va_up (gM cy ad0 th ra le W g) n (aA cy 4 (fI ad0 57 4))) n (aA cy 4 (fI ad0 57 4)) := ⟨by omega, va_up_self _ _ _⟩
  have hG0 : ∀ {W : tS} {k : Nat} {e : va_E}, (61 ≤ k ∧ k < n) → g k = e → vAt (n + 1) (va_up (gM cy ad0 th ra le W g) n (aA cy 4 (fI ad0 57 4))) k e := fun h1 h2 => ⟨by omega, (va_up_ne _ _ (by omega)).trans ((gM_o (by omega)).trans h2)⟩
  refine v_iload3 X dX5_bringBack_35 rfl ?_
  refine v_aload2 X dX5_bringBack_36 rfl ?_
  refine v_alenA X dX5_bringBack_37 hA0 ?_
  refine v_icmp_ge (tgt := 62) X dX5_bringBack_38 (by decide) (fun hc => absurd hc (by decide)) (fun _ => ?_)
  refine v_aload1 X dX5_bringBack_41 rfl ?_
  refine v_iload3 X dX5_bringBack_42 rfl ?_
  refine v_aaldA (j := 0) X dX5_bringBack_43 (hG0 ⟨hb, by omega⟩ hk0.2) rfl (by decide) (by decide) (fI_at (by decide)) ?_
  refine v_ico (v := nI 0) X dX5_bringBack_44 (by decide) ?_
  refine v_aload2 X dX5_bringBack_45 rfl ?_
  refine v_iload3 X dX5_bringBack_46 rfl ?_
  refine v_aaldA (j := 0) X dX5_bringBack_47 hA0 rfl (by decide) (by decide) (fI_at (by decide)) ?_
  refine v_ico (v := nI 0) X dX5_bringBack_48 (by decide) ?_
  refine v_aload2 X dX5_bringBack_49 rfl ?_
  refine v_iload3 X dX5_bringBack_50 rfl ?_
  refine v_aaldA (j := 0) X dX5_bringBack_51 hA0 rfl (by decide) (by decide) (fI_at (by decide)) ?_
  refine v_alenI (k := 57) X dX5_bringBack_52 (vAt.ne (gM_v (by omega)) (by omega)) ?_
  refine v_copyi (k0 := b + 1 + 0) (k1 := 57) X wm_X5_46 (sp := 0) (dp := 0) (q := 100) dX5_bringBack_53 (hG0 ⟨by omega, by omega⟩ (hc 0 (by decide)).2) (vAt.ne (gM_v (by omega)) (by omega)) rfl rfl rfl (by decide) (by decide) ⟨by decide, by decide⟩ (Nat.le_of_ble_eq_true rfl) ⟨Nat.le_of_ble_eq_true rfl, Nat.le_of_ble_eq_true rfl⟩ ?_
  refine vV.gg (va_up_comm _ _ _ (by omega)) ?_
  rw [cpy_all (vG_hi (by decide) (by omega))]
  refine vV.gg (show _ = va_up (gM cy ad0 th ra le (sN S, sP S, sH S, qs, fs, ms) g) n (aA cy 4 (fI ad0 57 4)) from congrArg (fun q => va_up q n (aA cy 4 (fI ad0 57 4))) gM0_3) ?_
  refine v_iinc3 (v := nI 1) X rfl (Nat.le_of_ble_eq_true rfl) dX5_bringBack_56 (by decide) ?_
  refine v_goto (tgt := 35) X dX5_bringBack_59 (by decide) ?_
  have hA1 : ∀ {W : tS}, vAt (n + 1) (va_up (gM cy ad0 th ra le W g) n (aA cy 4 (fI ad0 57 4))) n (aA cy 4 (fI ad0 57 4)) := ⟨by omega, va_up_self _ _ _⟩
  have hG1 : ∀ {W : tS} {k : Nat} {e : va_E}, (61 ≤ k ∧ k < n) → g k = e → vAt (n + 1) (va_up (gM cy ad0 th ra le W g) n (aA cy 4 (fI ad0 57 4))) k e := fun h1 h2 => ⟨by omega, (va_up_ne _ _ (by omega)).trans ((gM_o (by omega)).trans h2)⟩
  refine v_iload3 X dX5_bringBack_35 rfl ?_
  refine v_aload2 X dX5_bringBack_36 rfl ?_
  refine v_alenA X dX5_bringBack_37 hA1 ?_
  refine v_icmp_ge (tgt := 62) X dX5_bringBack_38 (by decide) (fun hc => absurd hc (by decide)) (fun _ => ?_)
  refine v_aload1 X dX5_bringBack_41 rfl ?_
  refine v_iload3 X dX5_bringBack_42 rfl ?_
  refine v_aaldA (j := 1) X dX5_bringBack_43 (hG1 ⟨hb, by omega⟩ hk0.2) rfl (by decide) (by decide) (fI_at (by decide)) ?_
  refine v_ico (v := nI 0) X dX5_bringBack_44 (by decide) ?_
  refine v_aload2 X dX5_bringBack_45 rfl ?_
  refine v_iload3 X dX5_bringBack_46 rfl ?_
  refine v_aaldA (j := 1) X dX5_bringBack_47 hA1 rfl (by decide) (by decide) (fI_at (by decide)) ?_
  refine v_ico (v := nI 0) X dX5_bringBack_48 (by decide) ?_
  refine v_aload2 X dX5_bringBack_49 rfl ?_
  refine v_iload3 X dX5_bringBack_50 rfl ?_
  refine v_aaldA (j := 1) X dX5_bringBack_51 hA1 rfl (by decide) (by decide) (fI_at (by decide)) ?_
  refine v_alenI (k := 58) X dX5_bringBack_52 (vAt.ne (gM_l (by omega)) (by omega)) ?_
  refine v_copyi (k0 := b + 1 + 1) (k1 := 58) X wm_X5_46 (sp := 0) (dp := 0) (q := 60) dX5_bringBack_53 (hG1 ⟨by omega, by omega⟩ (hc 1 (by decide)).2) (vAt.ne (gM_l (by omega)) (by omega)) rfl rfl rfl (by decide) (by decide) ⟨by decide, by decide⟩ (Nat.le_of_ble_eq_true rfl) ⟨Nat.le_of_ble_eq_true rfl, Nat.le_of_ble_eq_true rfl⟩ ?_
  refine vV.gg (va_up_comm _ _ _ (by omega)) ?_
  rw [cpy_all (vG_hi (by decide) (by omega))]
  refine vV.gg (show _ = va_up (gM cy ad0 th ra le (sN S, sP S, sH S, sQ S, fs, ms) g) n (aA cy 4 (fI ad0 57 4)) from congrArg (fun q => va_up q n (aA cy 4 (fI ad0 57 4))) gM0_4) ?_
  refine v_iinc3 (v := nI 2) X rfl (Nat.le_of_ble_eq_true rfl) dX5_bringBack_56 (by decide) ?_
  refine v_goto (tgt := 35) X dX5_bringBack_59 (by decide) ?_
  have hA2 : ∀ {W : tS}, vAt (n + 1) (va_up (gM cy ad0 th ra le W g) n (aA cy 4 (fI ad0 57 4))) n (aA cy 4 (fI ad0 57 4)) := ⟨by omega, va_up_self _ _ _⟩
  have hG2 : ∀ {W : tS} {k : Nat} {e : va_E}, (61 ≤ k ∧ k < n) → g k = e → vAt (n + 1) (va_up (gM cy ad0 th ra le W g) n (aA cy 4 (fI ad0 57 4))) k e := fun h1 h2 => ⟨by omega, (va_up_ne _ _ (by omega)).trans ((gM_o (by omega)).trans h2)⟩
  refine v_iload3 X dX5_bringBack_35 rfl ?_
  refine v_aload2 X dX5_bringBack_36 rfl ?_
  refine v_alenA X dX5_bringBack_37 hA2 ?_
  refine v_icmp_ge (tgt := 62) X dX5_bringBack_38 (by decide) (fun hc => absurd hc (by decide)) (fun _ => ?_)
  refine v_aload1 X dX5_bringBack_41 rfl ?_
  refine v_iload3 X dX5_bringBack_42 rfl ?_
  refine v_aaldA (j := 2) X dX5_bringBack_43 (hG2 ⟨hb, by omega⟩ hk0.2) rfl (by decide) (by decide) (fI_at (by decide)) ?_
  refine v_ico (v := nI 0) X dX5_bringBack_44 (by decide) ?_
  refine v_aload2 X dX5_bringBack_45 rfl ?_
  refine v_iload3 X dX5_bringBack_46 rfl ?_
  refine v_aaldA (j := 2) X dX5_bringBack_47 hA2 rfl (by decide) (by decide) (fI_at (by decide)) ?_
  refine v_ico (v := nI 0) X dX5_bringBack_48 (by decide) ?_
  refine v_aload2 X dX5_bringBack_49 rfl ?_
  refine v_iload3 X dX5_bringBack_50 rfl ?_
  refine v_aaldA (j := 2) X dX5_bringBack_51 hA2 rfl (by decide) (by decide) (fI_at (by decide)) ?_
  refine v_alenI (k := 59) X dX5_bringBack_52 (vAt.ne (gM_f (by omega)) (by omega)) ?_
  refine v_copyi (k0 := b + 1 + 2) (k1 := 59) X wm_X5_46 (sp := 0) (dp := 0) (q := 100) dX5_bringBack_53 (hG2 ⟨by omega, by omega⟩ (hc 2 (by decide)).2) (vAt.ne (gM_f (by omega)) (by omega)) rfl rfl rfl (by decide) (by decide) ⟨by decide, by decide⟩ (Nat.le_of_ble_eq_true rfl) ⟨Nat.le_of_ble_eq_true rfl, Nat.le_of_ble_eq_true rfl⟩ ?_
  refine vV.gg (va_up_comm _ _ _ (by omega)) ?_
  rw [cpy_all (hF)]
  refine vV.gg (show _ = va_up (gM cy ad0 th ra le (sN S, sP S, sH S, sQ S, sF S, ms) g) n (aA cy 4 (fI ad0 57 4)) from congrArg (fun q => va_up q n (aA cy 4 (fI ad0 57 4))) gM0_5) ?_
  refine v_iinc3 (v := nI 3) X rfl (Nat.le_of_ble_eq_true rfl) dX5_bringBack_56 (by decide) ?_
  refine v_goto (tgt := 35) X dX5_bringBack_59 (by decide) ?_
  have hA3 : ∀ {W : tS}, vAt (n + 1) (va_up (gM cy ad0 th ra le W g) n (aA cy 4 (fI ad0 57 4))) n (aA cy 4 (fI ad0 57 4)) := ⟨by omega, va_up_self _ _ _⟩
  have hG3 : ∀ {W : tS} {k : Nat} {e : va_E}, (61 ≤ k ∧ k < n) → g k = e → vAt (n + 1) (va_up (gM cy ad0 th ra le W g) n (aA cy 4 (fI ad0 57 4))) k e := fun h1 h2 => ⟨by omega, (va_up_ne _ _ (by omega)).trans ((gM_o (by omega)).trans h2)⟩
  refine v_iload3 X dX5_bringBack_35 rfl ?_
  refine v_aload2 X dX5_bringBack_36 rfl ?_
  refine v_alenA X dX5_bringBack_37 hA3 ?_
  refine v_icmp_ge (tgt := 62) X dX5_bringBack_38 (by decide) (fun hc => absurd hc (by decide)) (fun _ => ?_)
  refine v_aload1 X dX5_bringBack_41 rfl ?_
  refine v_iload3 X dX5_bringBack_42 rfl ?_
  refine v_aaldA (j := 3) X dX5_bringBack_43 (hG3 ⟨hb, by omega⟩ hk0.2) rfl (by decide) (by decide) (fI_at (by decide)) ?_
  refine v_ico (v := nI 0) X dX5_bringBack_44 (by decide) ?_
  refine v_aload2 X dX5_bringBack_45 rfl ?_
  refine v_iload3 X dX5_bringBack_46 rfl ?_
  refine v_aaldA (j := 3) X dX5_bringBack_47 hA3 rfl (by decide) (by decide) (fI_at (by decide)) ?_
  refine v_ico (v := nI 0) X dX5_bringBack_48 (by decide) ?_
  refine v_aload2 X dX5_bringBack_49 rfl ?_
  refine v_iload3 X dX5_bringBack_50 rfl ?_
  refine v_aaldA (j := 3) X dX5_bringBack_51 hA3 rfl (by decide) (by decide) (fI_at (by decide)) ?_
  refine v_alenI (k := 60) X dX5_bringBack_52 (vAt.ne (gM_m (by omega)) (by omega)) ?_
  refine v_copyi (k0 := b + 1 + 3) (k1 := 60) X wm_X5_46 (sp := 0) (dp := 0) (q := 5) dX5_bringBack_53 (hG3 ⟨by omega, by omega⟩ (hc 3 (by decide)).2) (vAt.ne (gM_m (by omega)) (by omega)) rfl rfl rfl (by decide) (by decide) ⟨by decide, by decide⟩ (Nat.le_of_ble_eq_true rfl) ⟨Nat.le_of_ble_eq_true rfl, Nat.le_of_ble_eq_true rfl⟩ ?_
  refine vV.gg (va_up_comm _ _ _ (by omega)) ?_
  rw [cpy_all (hM)]
  refine vV.gg (show _ = va_up (gM cy ad0 th ra le (sN S, sP S, sH S, sQ S, sF S, sM S) g) n (aA cy 4 (fI ad0 57 4)) from congrArg (fun q => va_up q n (aA cy 4 (fI ad0 57 4))) gM0_6) ?_
  refine v_iinc3 (v := nI 4) X rfl (Nat.le_of_ble_eq_true rfl) dX5_bringBack_56 (by decide) ?_
  refine v_goto (tgt := 35) X dX5_bringBack_59 (by decide) ?_
  refine v_iload3 X dX5_bringBack_35 rfl ?_
  refine v_aload2 X dX5_bringBack_36 rfl ?_
  refine v_alenA X dX5_bringBack_37 hA3 ?_
  refine v_icmp_ge (tgt := 62) X dX5_bringBack_38 (by decide) (fun _ => ?_) (fun hc => absurd (Int32.le_refl _) hc)
  refine vV.cut (n' := n) (ad' := ad) (g' := gM cy ad th ra le S g) (by omega) (fun j hj => (a0 j hj).symm) (fun j hj => ?_) ?_
  · rw [va_up_ne _ _ (show j ≠ n by omega), gM_ad (fun j hj => a0 j (by omega))]
  rw [← hQ]
  exact v_vret X hr hlk dX5_bringBack_62 ⟨rfl, rfl, rfl, rfl⟩
