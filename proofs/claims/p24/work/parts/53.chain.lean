/-! the law's village: chains, what is poured -/
theorem Ter_neg {N : Nat} {hs : Nat → Nat → Int32} {k : Nat} {x : Int32} (hN : N ≤ 10) (h : Ter N hs k x) : x < 0 ↔ k = 0 := by
  cases k with
  | zero =>
    have e : x = -1 := h
    rw [e]
    exact ⟨fun _ => rfl, fun _ => by decide⟩
  | succ k =>
    obtain ⟨j, h1, h2, -⟩ := h
    rw [h2]
    exact ⟨fun q => absurd q (nI_pos (by omega)), fun q => by omega⟩
theorem thru_m1 (k : Nat) (hs : Nat → Nat → Int32) (y : Int32) : thru k hs (-1) y = false := by
  cases k with
  | zero => rfl
  | succ k => unfold thru; rw [if_pos rfl]
theorem bI_n {b : Bool} : narrow .boolean (.int (bI b)) = .int (bI b) := by
  cases b <;> rfl
set_option maxRecDepth 100000 in
set_option maxHeartbeats 4000000 in
theorem c_X6_leads1 (l : Launch) {z0 n : Nat} {D : va_G} {cy : Nat → ClassId} {ad : Nat → Nat} {f lo k a : Nat} {y : Int32} {S : tS} {ra le : Nat → Int32} {g0 : Nat → va_E} (hn : 97 + sN S + sP S ≤ n) (hN : sN S ≤ 10) (ha : a < sN S) (ht : Ter (sN S) (sH S) k (sH S a 6)) (ih : 0 < k → Ct0 l yX6_leads cX6_leads 3 (some FieldType.boolean) f lo z0 D cy n ad (gS cy ad S ra le g0) [.ref (ad 54), .int (sH S a 6), .int y] (some (.int (bI (thru k (sH S) (sH S a 6) y)))) (gS cy ad S ra le g0)) : Ct0 l yX6_leads cX6_leads 3 (some FieldType.boolean) (f + 1) (lo + 22) z0 D cy n ad (gS cy ad S ra le g0) [.ref (ad 54), .int (nI a), .int y] (some (.int (bI (thru (k + 1) (sH S) (nI a) y)))) (gS cy ad S ra le g0) := by
  refine ct_of (by decide +kernel) 0 [some (.ref (ad 54)), some (.int (nI a)), some (.int y)] (Nat.le_of_ble_eq_true rfl) rfl ?_
  intro p e s m below meth c X hr hlk hnm
  have e0 := thru_nI (k := k) (j := a) (by omega) (sH S) y
  generalize hQ : MQ below (QcR z0 D (isR (some (.int (bI (thru (k + 1) (sH S) (nI a) y)))) n ad (gS cy ad S ra le g0))) ([.ref (ad 54), .int (nI a), .int y] : List Value).toArray s 0 0 (fun q => z0 ≤ q) = Q
  refine v_iload1 X dX6_leads_0 rfl ?_
  refine v_iload2 X dX6_leads_1 rfl ?_
  refine v_icmp_eq (tgt := 34) X dX6_leads_2 (by decide) (fun h1 => ?_) (fun h1 => ?_)
  · refine v_ico (v := 1) X dX6_leads_34 (by decide) ?_
    refine v_goto (tgt := 39) X dX6_leads_35 (by decide) ?_
    rw [← hQ]
    exact v_zret X hr hlk dX6_leads_39 rfl ⟨by rw [e0, if_pos h1]; rfl, rfl, rfl, rfl⟩
  rw [if_neg h1] at e0
  refine v_aload0 X dX6_leads_5 rfl ?_
  refine gf_X6_16 X dX6_leads_6 (gS_s hn) ?_
  refine v_iload1 X dX6_leads_9 rfl ?_
  refine v_aaldL X dX6_leads_10 (gS_h hn) rfl ha (by omega) ?_
  refine gf_X6_57 X dX6_leads_11 (gS_hh hn ha) ?_
  refine v_if_lt (tgt := 38) X dX6_leads_14 (by decide) (fun h2 => ?_) (fun h2 => ?_)
  · refine v_ico (v := 0) X dX6_leads_38 (by decide) ?_
    have hk : k = 0 := (Ter_neg hN ht).mp h2
    rw [← hQ]
    exact v_zret X hr hlk dX6_leads_39 rfl ⟨by rw [e0, hk]; rfl, rfl, rfl, rfl⟩
  have hk : 0 < k := Nat.pos_of_ne_zero (fun q => h2 ((Ter_neg hN ht).mpr q))
  refine v_aload0 X dX6_leads_17 rfl ?_
  refine v_aload0 X dX6_leads_18 rfl ?_
  refine gf_X6_16 X dX6_leads_19 (gS_s hn) ?_
  refine v_iload1 X dX6_leads_22 rfl ?_
  refine v_aaldL X dX6_leads_23 (gS_h hn) rfl ha (by omega) ?_
  refine gf_X6_57 X dX6_leads_24 (gS_hh hn ha) ?_
  refine v_iload2 X dX6_leads_27 rfl ?_
  refine cd_X6_60 X dX6_leads_28 (ih hk) (gS_s hn) rfl (Nat.le_of_ble_eq_true rfl) ⟨(by first | exact Nat.le_refl _ | (show 8 + (3 + 11) + lo ≤ lo + 22; omega)), (by first | exact Nat.le_refl _ | (show 8 + (3 + 11) + lo ≤ lo + 22; omega)), (Nat.le_of_ble_eq_true rfl), (Nat.le_of_ble_eq_true rfl)⟩ ?_
  generalize hb : thru k (sH S) (sH S a 6) y = b at *
  refine v_if_eq (tgt := 38) X dX6_leads_31 (by decide) (fun h3 => ?_) (fun h3 => ?_)
  · refine v_ico (v := 0) X dX6_leads_38 (by decide) ?_
    rw [← hQ]
    exact v_zret X hr hlk dX6_leads_39 rfl ⟨by rw [e0]; cases b with
      | false => rfl
      | true => exact absurd h3 (by decide), rfl, rfl, rfl⟩
  · refine v_ico (v := 1) X dX6_leads_34 (by decide) ?_
    refine v_goto (tgt := 39) X dX6_leads_35 (by decide) ?_
    rw [← hQ]
    exact v_zret X hr hlk dX6_leads_39 rfl ⟨by rw [e0]; cases b with
      | false => exact absurd rfl h3
      | true => rfl, rfl, rfl, rfl⟩
theorem c_X6_leads (l : Launch) {z0 n : Nat} {D : va_G} {cy : Nat → ClassId} {ad : Nat → Nat} {y : Int32} {S : tS} {ra le : Nat → Int32} {g0 : Nat → va_E} (hn : 97 + sN S + sP S ≤ n) (hN : sN S ≤ 10) : ∀ (k a : Nat), a < sN S → Ter (sN S) (sH S) k (sH S a 6) → Ct0 l yX6_leads cX6_leads 3 (some FieldType.boolean) (k + 1) (22 * (k + 1)) z0 D cy n ad (gS cy ad S ra le g0) [.ref (ad 54), .int (nI a), .int y] (some (.int (bI (thru (k + 1) (sH S) (nI a) y)))) (gS cy ad S ra le g0)
  | 0, a, ha, ht => c_X6_leads1 l (f := 0) (lo := 0) hn hN ha ht (fun q => absurd q (by omega))
  | k + 1, a, ha, ht => c_X6_leads1 l (f := k + 1) (lo := 22 * (k + 1)) hn hN ha ht (fun _ => by
      obtain ⟨j, h1, h2, h3⟩ := ht
      rw [h2]
      exact c_X6_leads l hn hN k j h1 h3)
set_option maxRecDepth 100000 in
set_option maxHeartbeats 4000000 in
theorem c_X6_behind1 (l : Launch) {z0 n : Nat} {D : va_G} {cy : Nat → ClassId} {ad : Nat → Nat} {f lo k a : Nat} {S : tS} {ra le : Nat → Int32} {g0 : Nat → va_E} (hn : 97 + sN S + sP S ≤ n) (hN : sN S ≤ 10) (ha : a < sN S) (ih : Ct0 l yX6_behind cX6_behind 2 (some FieldType.int) f lo z0 D cy n ad (gS cy ad S ra le g0) [.ref (ad 54), .int (sH S a 6)] (some (.int (nI k))) (gS cy ad S ra le g0)) : Ct0 l yX6_behind cX6_behind 2 (some FieldType.int) (f + 1) (lo + 21) z0 D cy n ad (gS cy ad S ra le g0) [.ref (ad 54), .int (nI a)] (some (.int (nI (k + 1)))) (gS cy ad S ra le g0) := by
  refine ct_of (by decide +kernel) 0 [some (.ref (ad 54)), some (.int (nI a))] (Nat.le_of_ble_eq_true rfl) rfl ?_
  intro p e s m below meth c X hr hlk hnm
  generalize hQ : MQ below (QcR z0 D (isR (some (.int (nI (k + 1)))) n ad (gS cy ad S ra le g0))) ([.ref (ad 54), .int (nI a)] : List Value).toArray s 0 0 (fun q => z0 ≤ q) = Q
  refine v_iload1 X dX6_behind_0 rfl ?_
  refine v_if_ge (tgt := 8) X dX6_behind_1 (by decide) (fun h1 => ?_) (fun h1 => ?_)
  · refine v_ico (v := 1) X dX6_behind_8 (by decide) ?_
    refine v_aload0 X dX6_behind_9 rfl ?_
    refine v_aload0 X dX6_behind_10 rfl ?_
    refine gf_X6_16 X dX6_behind_11 (gS_s hn) ?_
    refine v_iload1 X dX6_behind_14 rfl ?_
    refine v_aaldL X dX6_behind_15 (gS_h hn) rfl ha (by omega) ?_
    refine gf_X6_57 X dX6_behind_16 (gS_hh hn ha) ?_
    refine cd_X6_64 X dX6_behind_19 (ih) (gS_s hn) rfl (Nat.le_of_ble_eq_true rfl) ⟨(by first | exact Nat.le_refl _ | (show 8 + (2 + 11) + lo ≤ lo + 21; omega)), (by first | exact Nat.le_refl _ | (show 8 + (2 + 11) + lo ≤ lo + 21; omega)), (Nat.le_of_ble_eq_true rfl), (Nat.le_of_ble_eq_true rfl)⟩ ?_
    refine v_iadd X dX6_behind_22 ?_
    rw [← hQ]
    exact v_iret X hr hlk dX6_behind_23 ⟨by rw [show (1 : Int32) = nI 1 from rfl, nI_add, Nat.add_comm], rfl, rfl, rfl⟩
  exact absurd (nI_pos' (by omega)) h1
set_option maxRecDepth 100000 in
set_option maxHeartbeats 4000000 in
theorem c_X6_behind0 (l : Launch) {z0 n : Nat} {D : va_G} {cy : Nat → ClassId} {ad : Nat → Nat} {g : Nat → va_E} : Ct0 l yX6_behind cX6_behind 2 (some FieldType.int) 1 40 z0 D cy n ad g [.ref (ad 54), .int (-1)] (some (.int (nI 0))) g := by
  refine ct_of (by decide +kernel) 0 [some (.ref (ad 54)), some (.int (-1))] (Nat.le_of_ble_eq_true rfl) rfl ?_
  intro p e s m below meth c X hr hlk hnm
  refine v_iload1 X dX6_behind_0 rfl ?_
  refine v_if_ge (tgt := 8) X dX6_behind_1 (by decide) (fun h1 => ?_) (fun h1 => ?_)
  · exact absurd h1 (by decide)
  refine v_ico (v := 0) X dX6_behind_4 (by decide) ?_
  refine v_goto (tgt := 23) X dX6_behind_5 (by decide) ?_
  exact v_iret X hr hlk dX6_behind_23 ⟨rfl, rfl, rfl, rfl⟩
theorem c_X6_behind (l : Launch) {z0 n : Nat} {D : va_G} {cy : Nat → ClassId} {ad : Nat → Nat} {S : tS} {ra le : Nat → Int32} {g0 : Nat → va_E} (hn : 97 + sN S + sP S ≤ n) (hN : sN S ≤ 10) : ∀ (k : Nat) {x : Int32}, Ter (sN S) (sH S) k x → Ct0 l yX6_behind cX6_behind 2 (some FieldType.int) (k + 1) (40 + 21 * k) z0 D cy n ad (gS cy ad S ra le g0) [.ref (ad 54), .int x] (some (.int (nI k))) (gS cy ad S ra le g0)
  | 0, x, ht => by
      have e : x = -1 := ht
      rw [e]
      exact c_X6_behind0 l
  | k + 1, x, ht => by
      obtain ⟨j, h1, h2, h3⟩ := ht
      rw [h2]
      exact c_X6_behind1 l (f := k + 1) (lo := 40 + 21 * k) hn hN h1 (c_X6_behind l hn hN k h3)
