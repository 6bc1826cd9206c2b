/-! the start -/
theorem st_K {args : Array Value} {s : State} (b : Nat) (hts : ∀ w ∈ lw_tbl, w.before args s = true) : ∃ (D : va_G) (cy : Nat → ClassId), va_K D vwCl (tysV cy) s ∧ cy 9 = b := by
  have hU : ∀ w ∈ UW, w.before args s = true := fun w hw => hts w (List.mem_filter.mp hw).1
  obtain ⟨c0, i0, k0⟩ := u_known (C := RX0) (T := TX0) (N := 10) (n := 10) hU inU_X0 (hU _ wn_X0)
  obtain ⟨c1, i1, k1⟩ := u_known (C := RX1) (T := TX1) (N := 6) (n := 6) hU inU_X1 (hU _ wn_X1)
  obtain ⟨c2, i2, k2⟩ := u_known (C := RX2) (T := TX2) (N := 10) (n := 10) hU inU_X2 (hU _ wn_X2)
  obtain ⟨c3, i3, k3⟩ := u_known (C := RX3) (T := TX3) (N := 2) (n := 2) hU inU_X3 (hU _ wn_X3)
  obtain ⟨c4, i4, k4⟩ := u_known (C := RX4) (T := TX4) (N := 3) (n := 3) hU inU_X4 (hU _ wn_X4)
  obtain ⟨c5, i5, k5⟩ := u_known (C := RX5) (T := TX5) (N := 10) (n := 10) hU inU_X5 (hU _ wn_X5)
  obtain ⟨c6, i6, k6⟩ := u_known (C := RX6) (T := TX6) (N := 9) (n := 9) hU inU_X6 (hU _ wn_X6)
  obtain ⟨d0, m0, p0, e0, f0, g0⟩ := Cond.arrayClass_spec (hU _ wa_int)
  obtain ⟨p1, d1, m1, a1, -, f1, g1, e1⟩ := Cond.arrayOver_spec (hts (.arrayOver (.object RX5)) (by decide +kernel))
  obtain ⟨p2, d2, m2, a2, -, f2, g2, e2⟩ := Cond.arrayOver_spec (hts (.arrayOver (.object RX0)) (by decide +kernel))
  obtain ⟨p3, d3, m3, a3, -, f3, g3, e3⟩ := Cond.arrayOver_spec (hts (.arrayOver (.object RX1)) (by decide +kernel))
  obtain ⟨p4, d4, m4, a4, -, f4, g4, e4⟩ := arrayOverA_spec (hts (.arrayOver (.array .int)) (by decide +kernel))
  refine ⟨(fun k => match k with | 0 => c0 | 1 => c1 | 2 => c2 | 3 => c3 | 4 => c4 | 5 => c5 | _ => c6, fun k => match k with | 0 => i0 | 1 => i1 | 2 => i2 | 3 => i3 | 4 => i4 | 5 => i5 | _ => i6), fun k => match k with | 0 => d0 | 1 => d1 | 2 => d2 | 3 => d3 | 4 => d4 | _ => b, ⟨?_, ?_⟩, rfl⟩
  · intro k q hq
    match k, hq with
    | 0, hq => cases hq; exact k0
    | 1, hq => cases hq; exact k1
    | 2, hq => cases hq; exact k2
    | 3, hq => cases hq; exact k3
    | 4, hq => cases hq; exact k4
    | 5, hq => cases hq; exact k5
    | 6, hq => cases hq; exact k6
    | k + 7, hq => simp [vwCl] at hq
  · intro k q hq
    match k, hq with
    | 0, hq => cases hq; exact ⟨fun n z => ⟨(fun k h => by cases h), m0, f0, p0, g0⟩, e0⟩
    | 1, hq => cases hq; exact ⟨fun n z => ⟨(fun k h => by cases h), m1, f1, p1, g1⟩, m1, p1, f1, g1, a1, e1⟩
    | 2, hq => cases hq; exact ⟨fun n z => ⟨(fun k h => by cases h), m2, f2, p2, g2⟩, m2, p2, f2, g2, a2, e2⟩
    | 3, hq => cases hq; exact ⟨fun n z => ⟨(fun k h => by cases h), m3, f3, p3, g3⟩, m3, p3, f3, g3, a3, e3⟩
    | 4, hq => cases hq; exact ⟨fun n z => ⟨(fun k h => by cases h), m4, f4, p4, g4⟩, e4⟩
    | k + 5, hq => simp [tysV] at hq
theorem st_F {args : Array Value} {s : State} {cy : Nat → ClassId} {b L : Nat} {xs : Nat → Int32} (hts : ∀ w ∈ lw_tbl, w.before args s = true) (hcy : cy 9 = b) (hL : L ≤ 260) (hX : va_X b L xs s s.heap) : xF s.heap.size cy s := by
  refine ⟨fun q hq => ?_, ⟨?_, ?_, ?_, ?_⟩, ?_, L, xs, hL, ?_⟩
  · exact va_Nw.of rfl (hts _ ((by decide +kernel : ∀ q ∈ xNest, Cond.methodLinkNest q.1 q.2.1 q.2.2.1 q.2.2.2 ∈ lw_tbl) q hq))
  · exact va_AO.of (hts _ (by decide +kernel))
  · exact va_AO.of (hts _ (by decide +kernel))
  · exact va_AO.of (hts _ (by decide +kernel))
  · exact over_moved (Vm.Alike.refl s.vm) (hts (.arrayOver (.array .int)) (by decide +kernel))
  · rw [hcy]; exact hX.lt
  · rw [hcy]; exact hX
theorem gR0_ad {cy : Nat → ClassId} {ad ad' : Nat → Nat} (h : ∀ j, j < 54 → ad' j = ad j) : ∀ j, j < 54 → gR0 cy ad' j = gR0 cy ad j := by
  intro j hj
  unfold gR0
  rw [gI_adk (by omega) (fun q hq => h q (by omega))]
  refine gI_gk (fun q hq => ?_)
  rw [gI_adk (by omega) (fun q hq => h q (by omega))]
  refine gI_gk (fun q hq => ?_)
  unfold gW0
  rw [h 1 (by omega), h 4 (by omega), h 29 (by omega), h 2 (by omega), h 3 (by omega)]
theorem gR0_29 {cy : Nat → ClassId} {ad : Nat → Nat} {j : Nat} (h : j < 29) : gR0 cy ad j = gI cy ad 4 10 12 (gW0 cy ad) j := gI_lo h
theorem gR0_4 {cy : Nat → ClassId} {ad : Nat → Nat} {j : Nat} (h : j < 4) : gR0 cy ad j = gW0 cy ad j := (gI_lo (by omega)).trans (gI_lo h)
theorem S0_BJ {cy : Nat → ClassId} {ad : Nat → Nat} : BJ cy ad S0 zW zW (gR0 cy ad) := by
  refine ⟨⟨by omega, by omega, gR0_4 (by omega)⟩, ⟨⟨by omega, gR0_4 (by omega)⟩, ⟨by omega, gR0_4 (by omega)⟩, ⟨by omega, gR0_4 (by omega)⟩⟩, ⟨by omega, ⟨S0, gI_k⟩, gI_h, gI_p, fun i hi => ⟨dfH, gI_hh (by omega) (by omega)⟩, fun i hi => ⟨fun _ => 0, gI_pp (by omega)⟩⟩, fun j _ hj => (gR0_29 (by omega)).trans (gI_hh (by omega) (by omega)), fun j _ hj => (gR0_29 (by omega)).trans (gI_pp (by omega))⟩
theorem S0_gV {cy : Nat → ClassId} {ad : Nat → Nat} {j : Nat} (hj : j < 54) : gV cy ad 4 S0 (gR0 cy ad) j = gR0 cy ad j := by
  by_cases b1 : j = 4
  · subst b1
    rw [(gV_v (n := 54) (by omega)).2, gR0_29 (by omega), gI_k]
  by_cases b2 : j = 5
  · subst b2
    rw [(gV_ha (n := 54) (B := 4) (by omega)).2, gR0_29 (by omega)]
    exact gI_h.symm
  by_cases b3 : j = 6
  · subst b3
    rw [(gV_pa (n := 54) (B := 4) (by omega)).2, gR0_29 (by omega)]
    exact gI_p.symm
  rw [gV_out ⟨b1, b2, b3, fun q => absurd q.2 (by show ¬ j < 4 + 3 + 0; omega), fun q => absurd q.2 (by show ¬ j < 4 + 13 + 0; omega)⟩]
