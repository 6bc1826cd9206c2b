/-! the start -/
theorem st_K {args : Array Value} {s : State} (hts : ∀ w ∈ lw_tbl, w.before args s = true) : ∃ (D : va_G) (cy : Nat → ClassId), va_K D vwCl (tysV cy) s := by
  have hU : ∀ w ∈ UW, w.before args s = true := fun w hw => hts w (List.mem_filter.mp hw).1
  obtain ⟨c0, i0, k0⟩ := u_known (C := RX0) (T := TX0) (N := 10) (n := 10) hU inU_X0 (hU _ wn_X0)
  obtain ⟨c1, i1, k1⟩ := u_known (C := RX1) (T := TX1) (N := 6) (n := 6) hU inU_X1 (hU _ wn_X1)
  obtain ⟨c2, i2, k2⟩ := u_known (C := RX2) (T := TX2) (N := 10) (n := 10) hU inU_X2 (hU _ wn_X2)
  obtain ⟨c3, i3, k3⟩ := u_known (C := RX3) (T := TX3) (N := 2) (n := 2) hU inU_X3 (hU _ wn_X3)
  obtain ⟨c4, i4, k4⟩ := u_known (C := RX4) (T := TX4) (N := 3) (n := 3) hU inU_X4 (hU _ wn_X4)
  obtain ⟨c5, i5, k5⟩ := u_known (C := RX5) (T := TX5) (N := 9) (n := 9) hU inU_X5 (hU _ wn_X5)
  obtain ⟨d0, m0, p0, e0, f0, g0⟩ := Cond.arrayClass_spec (hU _ wa_int)
  obtain ⟨d1, m1, p1, e1, f1, g1⟩ := Cond.arrayClass_spec (hU _ wa_long)
  obtain ⟨p2, d2, m2, a2, -, f2, g2, e2⟩ := Cond.arrayOver_spec (hts (.arrayOver (.object RX0)) (by decide +kernel))
  obtain ⟨p3, d3, m3, a3, -, f3, g3, e3⟩ := Cond.arrayOver_spec (hts (.arrayOver (.object RX1)) (by decide +kernel))
  obtain ⟨p4, d4, m4, a4, -, f4, g4, e4⟩ := arrayOverA_spec (hts (.arrayOver (.array .int)) (by decide +kernel))
  refine ⟨(fun k => match k with | 0 => c0 | 1 => c1 | 2 => c2 | 3 => c3 | 4 => c4 | _ => c5, fun k => match k with | 0 => i0 | 1 => i1 | 2 => i2 | 3 => i3 | 4 => i4 | _ => i5), fun k => match k with | 0 => d0 | 1 => d1 | 2 => d2 | 3 => d3 | _ => d4, ?_, ?_⟩
  · intro k q hq
    match k, hq with
    | 0, hq => cases hq; exact k0
    | 1, hq => cases hq; exact k1
    | 2, hq => cases hq; exact k2
    | 3, hq => cases hq; exact k3
    | 4, hq => cases hq; exact k4
    | 5, hq => cases hq; exact k5
    | k + 6, hq => simp [vwCl] at hq
  · intro k q hq
    match k, hq with
    | 0, hq => cases hq; exact ⟨fun n z => ⟨(fun k h => by cases h), m0, f0, p0, g0⟩, e0⟩
    | 1, hq => cases hq; exact ⟨fun n z => ⟨(fun k h => by cases h), m1, f1, p1, g1⟩, e1⟩
    | 2, hq => cases hq; exact ⟨fun n z => ⟨(fun k h => by cases h), m2, f2, p2, g2⟩, m2, p2, f2, g2, a2, e2⟩
    | 3, hq => cases hq; exact ⟨fun n z => ⟨(fun k h => by cases h), m3, f3, p3, g3⟩, m3, p3, f3, g3, a3, e3⟩
    | 4, hq => cases hq; exact ⟨fun n z => ⟨(fun k h => by cases h), m4, f4, p4, g4⟩, e4⟩
    | k + 5, hq => simp [tysV] at hq
theorem st_F {args : Array Value} {s : State} (hts : ∀ w ∈ lw_tbl, w.before args s = true) (hgv : (Jvm.Cond.and given_1 narrow_1).before args s = true) : xF s.heap.size s := by
  have hs := flat_of_before _ hgv
  refine ⟨fun q hq => ?_, fun q hq => ?_, fun x hx => ?_, ⟨?_, ?_, ?_⟩, fun q hq => ?_, ?_, ?_, fun q hq => ?_⟩
  · exact va_Nw.of rfl (hts _ ((by decide +kernel : ∀ q ∈ xNest, Cond.methodLinkNest q.1 q.2.1 q.2.2.1 q.2.2.2 ∈ lw_tbl) q hq))
  · exact va_Nw.of rfl (hts _ ((by decide +kernel : ∀ q ∈ xCast, Cond.castable q.1 q.2 ∈ lw_tbl) q hq))
  · exact va_Nw.of rfl (hts _ ((by decide +kernel : ∀ x ∈ xDecl, Cond.declares x ∈ lw_tbl) x hx))
  · exact va_AO.of (hts _ (by decide +kernel))
  · exact va_AO.of (hts _ (by decide +kernel))
  · exact over_moved (Vm.Alike.refl s.vm) (hts (.arrayOver (.array .int)) (by decide +kernel))
  · have h1 := hts _ ((by decide +kernel : ∀ q ∈ xText, Cond.stringRef RX4 q.1 q.2 ∈ lw_tbl) q hq)
    have hcur : ∃ cur, s.vm.findClass RX4 = some cur := by
      have h2 := h1
      simp only [Cond.before, Cond.holds, Cond.value] at h2
      cases hc : s.vm.findClass RX4 with
      | none => simp [hc] at h2
      | some cur => exact ⟨cur, rfl⟩
    obtain ⟨cur, hcur⟩ := hcur
    obtain ⟨k, cf, i, a, -, -, -, -, -, h6⟩ := Cond.stringRef_spec hcur h1
    exact ⟨a, vk_R.of h1 h6⟩
  · exact vx_Zqof (hts (.laysStatic Bundle.tN "UNASSIGNED_STACK" Bundle.steD) (by decide +kernel)) (hts (.initialized Bundle.tN) (by decide +kernel)) (hs (.isRef (.static Bundle.tN "UNASSIGNED_STACK" Bundle.steD)) (by decide +kernel)) (fun a ha => by omega)
  · exact vx_Zqof (hts (.laysStatic Bundle.tN "SUPPRESSED_SENTINEL" Bundle.listD) (by decide +kernel)) (hts (.initialized Bundle.tN) (by decide +kernel)) (hs (.isRef (.static Bundle.tN "SUPPRESSED_SENTINEL" Bundle.listD)) (by decide +kernel)) (fun a ha => by omega)
  · revert q hq
    exact List.forall_mem_cons.mpr ⟨va_Nc.of (hs _ (by decide +kernel)), List.forall_mem_cons.mpr ⟨va_Nc.of (hs _ (by decide +kernel)), List.forall_mem_cons.mpr ⟨va_Nc.of (hs _ (by decide +kernel)), List.forall_mem_cons.mpr ⟨va_Nc.of (hs _ (by decide +kernel)), fun _ h => absurd h List.not_mem_nil⟩⟩⟩⟩
theorem gR0_ad {cy : Nat → ClassId} {ad ad' : Nat → Nat} (h : ∀ j, j < 54 → ad' j = ad j) : ∀ j, j < 54 → gR0 cy ad' j = gR0 cy ad j := by
  intro j hj
  unfold gR0
  rw [gI_adk (by omega) (fun q hq => h q (by omega))]
  refine gI_gk (fun q hq => ?_)
  rw [gI_adk (by omega) (fun q hq => h q (by omega))]
  refine gI_gk (fun q hq => ?_)
  unfold gW0
  rw [h 1 (by omega), h 4 (by omega), h 29 (by omega), h 2 (by omega), h 3 (by omega)]
def z28 : Nat → Int32 := fun _ => 0
def gS0 (cy : Nat → ClassId) (ad : Nat → Nat) : Nat → va_E := va_up (gR0 cy ad) 61 (oA cy (fun _ => 0))
theorem S0_ok : ok S0 := ⟨Nat.zero_le _, Nat.zero_le _, fun h hh => absurd hh (Nat.not_lt_zero _), fun h hh => absurd hh (Nat.not_lt_zero _), fun h hh => absurd hh (Nat.not_lt_zero _)⟩
theorem gR0_29 {cy : Nat → ClassId} {ad : Nat → Nat} {j : Nat} (h : j < 29) : gR0 cy ad j = gI cy ad 4 10 12 (gW0 cy ad) j := gI_lo h
theorem gR0_4 {cy : Nat → ClassId} {ad : Nat → Nat} {j : Nat} (h : j < 4) : gR0 cy ad j = gW0 cy ad j := (gI_lo (by omega)).trans (gI_lo h)
theorem S0_BS {cy : Nat → ClassId} {ad : Nat → Nat} : BS cy ad S0 z28 z28 (gS0 cy ad) := by
  have e : ∀ j, j < 61 → gS0 cy ad j = gR0 cy ad j := fun j hj => va_up_ne _ _ (by omega)
  refine ⟨⟨by omega, by omega, (e 0 (by omega)).trans (gR0_4 (by omega))⟩, ⟨⟨by omega, (e 1 (by omega)).trans (gR0_4 (by omega))⟩, ⟨by omega, (e 2 (by omega)).trans (gR0_4 (by omega))⟩, ⟨by omega, (e 3 (by omega)).trans (gR0_4 (by omega))⟩⟩, ⟨by omega, ⟨S0, (e 29 (by omega)).trans gI_k⟩, (e 30 (by omega)).trans gI_h, (e 31 (by omega)).trans gI_p, fun i hi => ⟨dfH, (e _ (by omega)).trans (gI_hh (by omega) (by omega))⟩, fun i hi => ⟨fun _ => 0, (e _ (by omega)).trans (gI_pp (by omega))⟩⟩, fun j _ hj => (e _ (by omega)).trans ((gR0_29 (by omega)).trans (gI_hh (by omega) (by omega))), fun j _ hj => (e _ (by omega)).trans ((gR0_29 (by omega)).trans (gI_pp (by omega))), _, va_up_self _ _ _⟩
theorem S0_Inv {cy : Nat → ClassId} {ad : Nat → Nat} : Inv cy ad 0 0 (gM cy ad 0 z28 z28 S0 (gV cy ad 4 S0 (gS0 cy ad))) := by
  refine ⟨S0, z28, z28, gS0 cy ad, 0, S0_ok, fun a b _ _ => ?_, ⟨fun d _ => ?_, fun d _ => ?_⟩, rfl, Nat.le_refl _, S0_BS, rfl⟩
  · show (0 : Int32) = 0 - 0
    decide
  · show 0 ≤ (0 : Int32).toInt ∧ (0 : Int32).toInt ≤ 20
    decide
  · show 0 ≤ (0 : Int32).toInt ∧ (0 : Int32).toInt ≤ 3
    decide
theorem vG_z {c : Nat} {hs : Nat → Nat → Int32} : vG c 0 hs = fun _ => 0 := by
  funext j
  unfold vG
  rw [if_neg (Nat.not_lt_zero _)]
/-- the law's world at its loop's start -/
theorem S0_world {cy : Nat → ClassId} {ad ad2 : Nat → Nat} {g : Nat → va_E} (h54 : ∀ j, j < 54 → ad j = ad2 j) (hlo : ∀ j, j < 54 → g j = gR0 cy ad2 j) (c54 : g 54 = cM ad 54 0 0 0) (c55 : g 55 = iZ cy 28) (c56 : g 56 = iZ cy 28) (c57 : g 57 = iZ cy 100) (c58 : g 58 = iZ cy 60) (c59 : g 59 = iZ cy 100) (c60 : g 60 = iZ cy 5) (c61 : g 61 = oA cy (fun _ => 0)) : ∀ j, j < 62 → gM cy ad 0 z28 z28 S0 (gV cy ad 4 S0 (gS0 cy ad)) j = g j := by
  intro j hj
  by_cases a1 : j < 54
  · rw [gM_o (by omega), hlo j a1, ← gR0_ad h54 j a1]
    by_cases b1 : j = 4
    · subst b1
      rw [(gV_v (n := 62) (by omega)).2, gR0_29 (by omega), gI_k]
    by_cases b2 : j = 5
    · subst b2
      rw [(gV_ha (n := 62) (B := 4) (by omega)).2, gR0_29 (by omega)]
      exact gI_h.symm
    by_cases b3 : j = 6
    · subst b3
      rw [(gV_pa (n := 62) (B := 4) (by omega)).2, gR0_29 (by omega)]
      exact gI_p.symm
    rw [gV_out ⟨b1, b2, b3, fun q => absurd q.2 (by show ¬ j < 4 + 3 + 0; omega), fun q => absurd q.2 (by show ¬ j < 4 + 13 + 0; omega)⟩]
    exact va_up_ne _ _ (by omega)
  by_cases a2 : j = 54
  · subst a2; rw [c54]; rfl
  by_cases a3 : j = 55
  · subst a3; rw [c55]; rfl
  by_cases a4 : j = 56
  · subst a4; rw [c56]; rfl
  by_cases a5 : j = 57
  · subst a5; rw [c57]; show iA cy 100 (vG 10 0 _) = _; rw [vG_z]; rfl
  by_cases a6 : j = 58
  · subst a6; rw [c58]; show iA cy 60 (vG 5 0 _) = _; rw [vG_z]; rfl
  by_cases a7 : j = 59
  · subst a7; rw [c59]; rfl
  by_cases a8 : j = 60
  · subst a8; rw [c60]; rfl
  have a9 : j = 61 := by omega
  subst a9
  rw [c61, gM_o (by omega), gV_out (by unfold gOut; show _ ∧ _ ∧ _ ∧ ¬ (4 + 3 ≤ 61 ∧ 61 < 4 + 3 + 0) ∧ ¬ (4 + 13 ≤ 61 ∧ 61 < 4 + 13 + 0); omega)]
  exact va_up_self _ _ _
