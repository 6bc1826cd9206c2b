/-! the script's cells; a number below another; the law's house and village made anew -/
section SLD
variable {p : Program} {l : Launch} {e : Env} {R : Room} {s : State} {m : MethodId} {args : Array Value} {below : List Frame} {meth : Method} {c : Code} {cells slots : Nat} {Q : State → Prop}
variable {cc : ByteArray} {own : String} {nL z0 n pc : Nat} {D : va_G} {cy : Nat → ClassId} {ad : Nat → Nat} {g : Nat → va_E} {L : List (Option Value)} {st : List Value}
theorem v_sld (X : vCx p s m args c cc own nL z0 D cy) {b Ls j : Nat} {xs : Nat → Int32} {x : Int32} (hX : va_X b Ls xs s s.heap) (hz : ¬ z0 ≤ b) (d : decode cc pc = .ok (.iaload, 1)) (hx : x = nI j) (hj : j < Ls) (hL : Ls < 2 ^ 31) (kk : vV p l e R s m args below meth c nL z0 D cells slots Q n ad g (pc + 1) L (.int (xs j) :: st)) : vV p l e R s m args below meth c nL z0 D cells slots Q n ad g pc L (.int x :: .ref b :: st) := fun H locs ls hS hP hD hl => by
  subst hx
  refine va_sld X.1 X.2.1 hX hX.lt hz hS (vp_in_nI hj hL) d ?_
  rw [nI_clamp (by omega)]
  exact kk H locs ls hS hP hD hl
theorem v_slen (X : vCx p s m args c cc own nL z0 D cy) {b Ls : Nat} {xs : Nat → Int32} (hX : va_X b Ls xs s s.heap) (hz : ¬ z0 ≤ b) (d : decode cc pc = .ok (.arraylength, 1)) (kk : vV p l e R s m args below meth c nL z0 D cells slots Q n ad g (pc + 1) L (.int (nI Ls) :: st)) : vV p l e R s m args below meth c nL z0 D cells slots Q n ad g pc L (.ref b :: st) := fun H locs ls hS hP hD hl =>
  va_slen X.1 X.2.1 hX hX.lt hz hS d (kk H locs ls hS hP hD hl)
end SLD
def bel (v : Int32) (N : Nat) : Nat := (v &&& 2147483647).toNatClampNeg % N
theorem and_pos (v : Int32) : ∃ a : Nat, a < 2 ^ 31 ∧ v &&& 2147483647 = nI a := by
  refine ⟨(v.toBitVec &&& 2147483647#32).toNat, ?_, ?_⟩
  · rw [BitVec.toNat_and]
    exact Nat.lt_of_le_of_lt Nat.and_le_right (by decide)
  · apply Int32.toBitVec_inj.mp
    show v.toBitVec &&& 2147483647#32 = BitVec.ofNat 32 _
    rw [BitVec.ofNat_toNat, BitVec.setWidth_eq]
theorem bel_lt (v : Int32) {N : Nat} (h0 : 0 < N) : bel v N < N := Nat.mod_lt _ h0
theorem bel_eq (v : Int32) {N : Nat} (h0 : 0 < N) (hN : N < 2 ^ 31) : (v &&& 2147483647) - (v &&& 2147483647) / nI N * nI N = nI (bel v N) := by
  obtain ⟨a, ha, e⟩ := and_pos v
  unfold bel
  rw [e, pk_rem ha h0 hN, nI_clamp ha]
set_option maxRecDepth 100000 in
set_option maxHeartbeats 4000000 in
theorem c_below (l : Launch) {z0 n : Nat} {D : va_G} {cy : Nat → ClassId} {ad : Nat → Nat} {g : Nat → va_E} {v : Int32} {N : Nat} (h0 : 0 < N) (hN : N < 2 ^ 31) : Ct0 l yL_below cL_below 2 (some FieldType.int) 0 0 z0 D cy n ad g [.int v, .int (nI N)] (some (.int (nI (bel v N)))) g := by
  refine ct_of (by decide +kernel) 0 [some (.int v), some (.int (nI N))] (Nat.le_of_ble_eq_true rfl) rfl ?_
  intro p e s m below meth c X hr hlk hnm
  refine v_iload0 X dL_below_0 rfl ?_
  refine v_ldc X dL_below_1 wq_L_7 ?_
  refine v_iand X dL_below_3 ?_
  refine v_iload1 X dL_below_4 rfl ?_
  refine v_irem X dL_below_5 (nI_ne0 h0 hN) ?_
  rw [bel_eq v h0 hN]
  exact v_iret X hr hlk dL_below_6 ⟨rfl, rfl, rfl, rfl⟩
/-- some int, and nothing else is changed -/
abbrev anyI (n : Nat) (ad : Nat → Nat) (g : Nat → va_E) : CtP := fun r n' ad' g' => (∃ x : Int32, r = some (.int x)) ∧ n' = n ∧ ad' = ad ∧ g' = g
set_option maxRecDepth 100000 in
set_option maxHeartbeats 4000000 in
theorem c_cell (l : Launch) {z0 n : Nat} {D : va_G} {cy : Nat → ClassId} {ad : Nat → Nat} {g : Nat → va_E} {j : Nat} (hj : j < 1000) : CtG l yL_cell cL_cell 2 (some FieldType.int) (rmv 0 0) z0 D cy n ad g [.ref (cy 9), .int (nI j)] (anyI n ad g) 0 0 := by
  refine ct_of (by decide +kernel) 0 [some (.ref (cy 9)), some (.int (nI j))] (Nat.le_of_ble_eq_true rfl) rfl ?_
  intro p e s m below meth c X hr hlk hnm
  obtain ⟨hz, Ls, xs, hL, hX⟩ := X.2.2.2.2.2.2.2.2.2
  have hz' : ¬ z0 ≤ cy 9 := Nat.not_le.mpr hz
  refine v_iload1 X dL_cell_0 rfl ?_
  refine v_aload0 X dL_cell_1 rfl ?_
  refine v_slen X hX hz' dL_cell_2 ?_
  refine v_icmp_ge (tgt := 12) X dL_cell_3 (by decide) (fun h1 => ?_) (fun h1 => ?_)
  · refine v_ldc X dL_cell_12 wq_L_8 ?_
    refine v_iload1 X dL_cell_14 rfl ?_
    refine v_ico (v := 3) X dL_cell_15 (by decide) ?_
    refine v_iadd X dL_cell_16 ?_
    refine v_imul X dL_cell_17 ?_
    exact v_iret X hr hlk dL_cell_18 ⟨⟨_, rfl⟩, rfl, rfl, rfl⟩
  have hlt : j < Ls := Nat.not_le.mp (fun q => h1 (nI_le q (by omega)))
  refine v_aload0 X dL_cell_6 rfl ?_
  refine v_iload1 X dL_cell_7 rfl ?_
  refine v_sld X hX hz' dL_cell_8 rfl hlt (by omega) ?_
  refine v_goto (tgt := 18) X dL_cell_9 (by decide) ?_
  exact v_iret X hr hlk dL_cell_18 ⟨⟨_, rfl⟩, rfl, rfl, rfl⟩
set_option maxRecDepth 100000 in
set_option maxHeartbeats 4000000 in
theorem c_X5_init (l : Launch) {z0 n k : Nat} {D : va_G} {cy : Nat → ClassId} {ad : Nat → Nat} {g : Nat → va_E} (hg : vAt n g k (.inr (5, [.int 0, .int 0, .int 0, .int 0, .int 0, .int 0, .int 0, .int 0, .int 0, .int 0]))) : Ct0 l yX5_init cX5_init 1 none 1 20 z0 D cy n ad g [.ref (ad k)] none (va_up g k (cL dfH)) := by
  refine ct_of (by decide +kernel) 0 [some (.ref (ad k))] (Nat.le_of_ble_eq_true rfl) rfl ?_
  intro p e s m below meth c X hr hlk hnm
  refine v_aload0 X dX5_init_0 rfl ?_
  refine v_objI X wm_X5_1 dX5_init_1 ⟨Nat.le_refl _, Nat.le_refl _⟩ (Nat.le_of_ble_eq_true rfl) ?_
  refine v_aload0 X dX5_init_4 rfl ?_
  refine v_ico (v := -1) X dX5_init_5 (by decide) ?_
  refine pf_X5_7 X dX5_init_6 hg ?_
  exact v_vret X hr hlk dX5_init_9 ⟨rfl, rfl, rfl, rfl⟩
