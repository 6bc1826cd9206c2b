/-! the law's village made anew -/
def zW : Nat → Int32 := fun _ => 0
def PS (cy : Nat → ClassId) (ad : Nat → Nat) (g0 : Nat → va_E) : CtP := fun r n' ad' g' => r = none ∧ n' = 97 ∧ (∀ k, k < 55 → ad' k = ad k) ∧ ∀ k, k < 97 → g' k = gS cy ad' S0 zW zW g0 k
def fI (k : Nat) : Nat := if k < 84 then k else if k < 95 then k + 2 else if k = 95 then 84 else 85
theorem fI_lo {k : Nat} (h : k < 84) : fI k = k := if_pos h
theorem fI_f {k : Nat} (h1 : 84 ≤ k) (h2 : k < 95) : fI k = k + 2 := by
  unfold fI
  rw [if_neg (by omega), if_pos h2]
theorem fI_lt {k : Nat} (h : k < 97) : fI k < 97 := by
  unfold fI
  split
  · omega
  · split
    · omega
    · split <;> omega
theorem fI_inj {i j : Nat} (hi : i < 97) (hj : j < 97) (h : fI i = fI j) : i = j := by
  unfold fI at h
  split at h <;> split at h <;> (try split at h) <;> (try split at h) <;> (try split at h) <;> (try split at h) <;> omega
theorem gs_z {cy : Nat → ClassId} {k : Nat} {ad : Nat → Nat} {g0 : Nat → va_E} (h1 : 56 ≤ k) (h2 : k < 84) : gS cy ad S0 zW zW g0 k = iA cy 2 (fun _ => 0) := by
  have q := (gS_wr (cy := cy) (ad := ad) (S := S0) (ra := zW) (le := zW) (g0 := g0) (Nat.le_refl _) (i := k - 56) (by omega)).2
  rw [show 56 + (k - 56) = k by omega] at q
  rw [q]
  refine congrArg (iA cy 2) ?_
  funext j
  unfold wr zW
  split
  · rfl
  · split <;> rfl
theorem gs_y {cy : Nat → ClassId} {k : Nat} {ad : Nat → Nat} {g0 : Nat → va_E} (h1 : 85 ≤ k) (h2 : k < 95) : gS cy ad S0 zW zW g0 k = iA cy 10 (fun _ => 0) := by
  have q := (gS_fr (cy := cy) (ad := ad) (S := S0) (ra := zW) (le := zW) (g0 := g0) (Nat.le_refl _) (i := k - 85) (by omega)).2
  rw [show 85 + (k - 85) = k by omega] at q
  rw [q]
  refine congrArg (iA cy 10) ?_
  funext j
  unfold fr
  split <;> rfl
theorem mnG_lo {cy : Nat → ClassId} {ad : Nat → Nat} {n N M k : Nat} {g : Nat → va_E} (h : k < n) : mnG cy ad n N M g k = g k := if_pos h
theorem mnG_n {cy : Nat → ClassId} {ad : Nat → Nat} {n N M : Nat} {g : Nat → va_E} : mnG cy ad n N M g n = aA cy N (rf ad (n + 1) N) := by
  unfold mnG
  rw [if_neg (Nat.lt_irrefl _), if_pos rfl]
theorem mnG_hi {cy : Nat → ClassId} {ad : Nat → Nat} {n N M k : Nat} {g : Nat → va_E} (h : n < k) : mnG cy ad n N M g k = iA cy M (fun _ => 0) := by
  unfold mnG
  rw [if_neg (by omega), if_neg (by omega)]
set_option maxRecDepth 100000 in
set_option maxHeartbeats 4000000 in
theorem c_X6_init (l : Launch) {z0 n : Nat} {D : va_G} {cy : Nat → ClassId} {ad : Nat → Nat} {g : Nat → va_E} (hn : n = 55) (hg : g 54 = .inr (6, [.null, .null, .null, .null, .int 0, .int 0, .int 0, .int 0, .int 0])) : CtG l yX6_init cX6_init 1 none { frames := 1, cells := 42, slots := 194, locals := 60 } z0 D cy n ad g [.ref (ad 54)] (PS cy ad g) 42 194 := by
  refine ct_of (by decide +kernel) 0 [some (.ref (ad 54))] (Nat.le_of_ble_eq_true rfl) rfl ?_
  intro p e s m below meth c X hr hlk hnm
  generalize ([.ref (ad 54)] : List Value).toArray = A at X ⊢
  subst hn
  have hx5 := X.2.2.2.2.2.2.2.2.1.2.2.1
  generalize hQ : MQ below (QcR z0 D (PS cy ad g)) A s 42 194 (fun q => z0 ≤ q) = Q
  refine v_aload0 X dX6_init_0 rfl ?_
  refine v_objI X wm_X6_1 dX6_init_1 ⟨Nat.le_refl _, Nat.le_of_ble_eq_true rfl⟩ (Nat.le_of_ble_eq_true rfl) ?_
  refine v_aload0 X dX6_init_4 rfl ?_
  refine v_bip (v := 28) X dX6_init_5 (by decide) ?_
  refine v_ico (v := 2) X dX6_init_7 (by decide) ?_
  refine v_multi (N := 28) (M := 2) X rfl rfl (by omega) (by omega) wk_X6_7 ⟨by decide, by decide⟩ dX6_init_8 ?_
  intro ad1 a1
  rw [← a1 54 (by omega)]
  refine pf_X6_9 X dX6_init_12 ⟨by omega, hg⟩ ?_
  refine v_aload0 X dX6_init_15 rfl ?_
  refine v_ico (v := 0) X dX6_init_16 (by decide) ?_
  refine v_newq (t0 := 1) (N := 0) X rfl (by omega) wk_X6_14 hx5 rfl ⟨by decide, by decide⟩ dX6_init_17 ?_
  intro ad2 a2
  rw [← a2 54 (by omega), ← a2 55 (by omega)]
  refine pf_X6_16 X dX6_init_20 ⟨by omega, (va_up_ne _ _ (by omega)).trans (va_up_self _ _ _)⟩ ?_
  refine v_aload0 X dX6_init_23 rfl ?_
  refine v_ico (v := 0) X dX6_init_24 (by decide) ?_
  refine v_newA (N := 0) X rfl (by omega) wk_X6_20 ⟨by decide, by decide⟩ dX6_init_25 ?_
  intro ad3 a3
  rw [← a3 54 (by omega), ← a3 55 (by omega), ← a3 84 (by omega)]
  refine pf_X6_22 X dX6_init_28 ⟨by omega, (va_up_ne _ _ (by omega)).trans (va_up_self _ _ _)⟩ ?_
  refine v_aload0 X dX6_init_31 rfl ?_
  refine v_bip (v := 10) X dX6_init_32 (by decide) ?_
  refine v_bip (v := 10) X dX6_init_34 (by decide) ?_
  refine v_multi (N := 10) (M := 10) X rfl rfl (by omega) (by omega) wk_X6_7 ⟨by decide, by decide⟩ dX6_init_36 ?_
  intro ad4 a4
  rw [← a4 54 (by omega), ← a4 55 (by omega), ← a4 84 (by omega), ← a4 85 (by omega)]
  refine pf_X6_25 X dX6_init_40 ⟨by omega, (mnG_lo (by omega)).trans (va_up_self _ _ _)⟩ ?_
  refine vV.re fI (n' := 97) (ad' := fun k => ad4 (fI k)) (fun k hk => ⟨fI_lt hk, rfl, rfl⟩) (fun i j hi hj => fI_inj hi hj) ?_
  rw [← hQ]
  refine v_vret X hr hlk dX6_init_43 ⟨rfl, rfl, fun k hk => ?_, fun k hk => ?_⟩
  · show ad4 (fI k) = ad k
    rw [fI_lo (by omega), a4 k (by omega), a3 k (by omega), a2 k (by omega), a1 k hk]
  · show va_up _ _ _ (fI k) = _
    by_cases k1 : k = 54
    · subst k1
      rw [fI_lo (by omega), va_up_self]
      rfl
    by_cases k2 : k < 84
    · rw [fI_lo k2, va_up_ne _ _ k1, mnG_lo (by omega), va_up_ne _ _ k1, va_up_ne _ _ (by omega), va_up_ne _ _ k1, va_up_ne _ _ (by omega), va_up_ne _ _ k1]
      by_cases k3 : k < 54
      · rw [mnG_lo (by omega), gS_out (Or.inl k3)]
      by_cases k4 : k = 55
      · subst k4
        rw [mnG_n]
        show aA cy 28 _ = aA cy 28 (rf _ 56 28)
        refine congrArg (aA cy 28) (rf_ad (fun i hi => ?_)).symm
        show ad4 (fI (56 + i)) = _
        rw [fI_lo (by omega), a4 _ (by omega), a3 _ (by omega), a2 _ (by omega)]
      · rw [mnG_hi (by omega), gs_z (by omega) k2]
    by_cases k5 : k = 84
    · subst k5
      rw [fI_f (by omega) (by omega), va_up_ne _ _ (by omega), mnG_n]
      show aA cy 10 _ = aA cy 10 (rf _ 85 10)
      refine congrArg (aA cy 10) (funext fun i => ?_)
      show (if i < 10 then some (ad4 (87 + i)) else none) = if i < 10 then some (ad4 (fI (85 + i))) else none
      by_cases hi : i < 10
      · rw [if_pos hi, if_pos hi, fI_f (by omega) (by omega), show 85 + i + 2 = 87 + i by omega]
      · rw [if_neg hi, if_neg hi]
    by_cases k6 : k < 95
    · rw [fI_f (by omega) k6, va_up_ne _ _ (by omega), mnG_hi (by omega), gs_y (by omega) k6]
    by_cases k7 : k = 95
    · subst k7
      rw [show fI 95 = 84 from rfl, va_up_ne _ _ (by omega), mnG_lo (by omega), va_up_ne _ _ (by omega), va_up_ne _ _ (by omega), va_up_ne _ _ (by omega), va_up_self]
      show _ = hA cy 0 (rf _ 97 0)
      rw [rf_0]
      rfl
    · have k8 : k = 96 := by omega
      subst k8
      rw [show fI 96 = 85 from rfl, va_up_ne _ _ (by omega), mnG_lo (by omega), va_up_ne _ _ (by omega), va_up_self]
      show _ = aA cy 0 (rf _ (97 + 0) 0)
      rw [rf_0]
