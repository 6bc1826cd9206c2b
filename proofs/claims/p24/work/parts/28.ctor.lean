/-! making: objects, arrays, constructors -/
theorem vV.eqw {p : Program} {l : Launch} {e : Env} {R : Room} {s : State} {m : MethodId} {args : Array Value} {below : List Frame} {meth : Method} {c : Code} {nL z0 : Nat} {D : va_G} {cells slots : Nat} {Q : State → Prop} {n : Nat} {ad ad' : Nat → Nat} {g g' : Nat → va_E} {pc : Nat} {L : List (Option Value)} {st : List Value} (ha : ∀ k, k < n → ad' k = ad k) (hg : ∀ k, k < n → g' k = g k) (k : vV p l e R s m args below meth c nL z0 D cells slots Q n ad' g' pc L st) : vV p l e R s m args below meth c nL z0 D cells slots Q n ad g pc L st := vV.cut (Nat.le_refl n) ha hg k
section MK
variable {p : Program} {l : Launch} {e : Env} {R : Room} {s : State} {m : MethodId} {args : Array Value} {below : List Frame} {meth : Method} {c : Code} {cells slots : Nat} {Q : State → Prop}
variable {cc : ByteArray} {own : String} {nL z0 n pc : Nat} {D : va_G} {cy : Nat → ClassId} {ad : Nat → Nat} {g : Nat → va_E} {L : List (Option Value)} {st : List Value}
theorem v_objI (X : vCx p s m args c cc own nL z0 D cy) {idx x : Nat} (wm : Cond.methodLink own idx ({ cls := "java/lang/Object", name := "<init>", desc := "()V" } : MethodName) ∈ UW) (d : decode cc pc = .ok (.invokespecial idx, 3)) (hR : 1 ≤ R.frames ∧ 20 ≤ R.locals) (hst : (st.map fun v => v.category).sum ≤ 8) (kk : vV p l e R s m args below meth c nL z0 D cells slots Q n ad g (pc + 3) L st) : vV p l e R s m args below meth c nL z0 D cells slots Q n ad g pc L (.ref x :: st) := fun H locs ls hS hP hD hl =>
  W.objInit X.1 X.2.1 X.2.2.2.1 (X.2.2.2.2.1 _ wm) (X.2.2.2.2.1 _ wi_Object__init_) (X.2.2.2.2.1 _ wc_Object__init_) rfl (hl.1.trans X.2.2.1.symm) rfl d hR.1 (by have h1 : 2 * (F0 m pc ls (.ref x :: st)).monitorRoom + (st.map fun v => v.category).sum ≤ 8 := lv_room (m := m) (pc := pc) (ls := ls) (rest := .ref x :: st) hst; omega) (kk H locs ls hS hP hD hl)
theorem v_new (X : vCx p s m args c cc own nL z0 D cy) {C : String} {T : u_T} {N ci index : Nat} {fs : List Value} (hin : ∀ w ∈ u_ws C T N, w ∈ UW) (ty : Nat → FieldType) (hty : ∀ k, k < N → parseFieldDescriptor (T k).2.2.1 = some (ty k)) (wk : Cond.classLink own index C ∈ UW) (wn : Cond.instantiable C N ∈ UW) (wz : Cond.initialized C ∈ UW) (hc : vwCl[ci]? = some (C, T, N)) (hfs : ∀ j, j < N → defaultValue (ty j) = vp_V fs j) (hR : cells + 1 ≤ R.cells ∧ slots + N ≤ R.slots) (d : decode cc pc = .ok (.new index, 3))
    (kk : ∀ ad' : Nat → Nat, (∀ j, j < n → ad' j = ad j) → vV p l e R s m args below meth c nL z0 D (cells + 1) (slots + N) Q (n + 1) ad' (va_up g n (.inr (ci, fs))) (pc + 3) L (.ref (ad' n) :: st)) : vV p l e R s m args below meth c nL z0 D cells slots Q n ad g pc L st := fun H locs ls hS hP hD hl =>
  va_new X.1 X.2.1 X.2.2.2.2.1 hin ty hty X.2.2.2.1 (X.2.2.2.2.1 _ wk) (X.2.2.2.2.1 _ wn) (X.2.2.2.2.1 _ wz) X.2.2.2.2.2.1 hP hD hS (fun q hq => Nat.le_trans X.2.2.2.2.2.2.1 hq) hc hfs hR.1 hR.2 d (fun q H1 hP1 hD1 hS1 => by
    have k1 := kk (va_up ad n q) (fun j hj => va_up_ne _ _ (by omega)) H1 locs ls hS1 (wl_push ▸ hP1) (wl_push ▸ hD1) hl
    rw [va_up_self] at k1
    exact k1)
theorem v_newi (X : vCx p s m args c cc own nL z0 D cy) {x : Int32} {N : Nat} (hx : x = nI N) (hN : N < 1000) (hR : cells + 1 ≤ R.cells ∧ slots + N ≤ R.slots) (d : decode cc pc = .ok (.newarray .int, 2))
    (kk : ∀ ad' : Nat → Nat, (∀ j, j < n → ad' j = ad j) → vV p l e R s m args below meth c nL z0 D (cells + 1) (slots + N) Q (n + 1) ad' (va_up g n (.inl (cy 0, N, .inl (fun _ => 0)))) (pc + 2) L (.ref (ad' n) :: st)) : vV p l e R s m args below meth c nL z0 D cells slots Q n ad g pc L (.int x :: st) := fun H locs ls hS hP hD hl => by
  subst hx
  refine va_newa (atype := .int) X.1 X.2.1 (X.2.2.2.2.1 _ wa_int) (ty := .int) rfl X.2.2.2.2.2.1 hP hD hS (fun q hq => Nat.le_trans X.2.2.2.2.2.2.1 hq) (N' := N) (a0 := (N, .inl (fun _ => 0))) (fun cA => rfl) (Int32.not_lt.mpr (nI_pos' (by omega))) (nI_clamp (by omega)) (by show N * 4 ≤ _; omega) hR.1 hR.2 d (fun q cA H1 hK1 hP1 hD1 hS1 => ?_)
  have hA : cA = cy 0 := by
    have h1 := va_nm_int (hK1.2 5 (cA, .int) rfl).2
    have h2 := va_nm_int (X.2.2.2.2.2.1.2 0 (cy 0, .int) rfl).2
    exact Option.some.inj (h1.symm.trans h2)
  subst hA
  have k1 := kk (va_up ad n q) (fun j hj => va_up_ne _ _ (by omega)) H1 locs ls hS1 (wl_push ▸ hP1) (wl_push ▸ hD1) hl
  rw [va_up_self] at k1
  exact k1
theorem v_newq (X : vCx p s m args c cc own nL z0 D cy) {x : Int32} {N t0 index : Nat} {C : String} (hx : x = nI N) (hN : N < 1000) (wk : Cond.classLink own index C ∈ UW) (hO : va_AO C s) (ht : (tysV cy)[t0]? = some (cy t0, .object C)) (hR : cells + 1 ≤ R.cells ∧ slots + N ≤ R.slots) (d : decode cc pc = .ok (.anewarray index, 3))
    (kk : ∀ ad' : Nat → Nat, (∀ j, j < n → ad' j = ad j) → vV p l e R s m args below meth c nL z0 D (cells + 1) (slots + N) Q (n + 1) ad' (va_up g n (.inl (cy t0, N, .inr (.inr (.inr (.inr (fun _ => none))))))) (pc + 3) L (.ref (ad' n) :: st)) : vV p l e R s m args below meth c nL z0 D cells slots Q n ad g pc L (.int x :: st) := fun H locs ls hS hP hD hl => by
  subst hx
  refine va_newq X.1 X.2.1 X.2.2.2.1 (X.2.2.2.2.1 _ wk) hO X.2.2.2.2.2.1 hP hD hS (fun q hq => Nat.le_trans X.2.2.2.2.2.2.1 hq) (N' := N) (Int32.not_lt.mpr (nI_pos' (by omega))) (nI_clamp (by omega)) (by omega) hR.1 hR.2 d (fun q cA H1 hK1 hP1 hD1 hS1 => ?_)
  have hA : cA = cy t0 := by
    obtain ⟨_, _, _, _, _, h1⟩ := (hK1.2 5 (cA, .object C) rfl).2
    obtain ⟨_, _, _, _, _, h2⟩ := (X.2.2.2.2.2.1.2 t0 (cy t0, .object C) ht).2
    exact Option.some.inj (h1.symm.trans h2)
  subst hA
  have k1 := kk (va_up ad n q) (fun j hj => va_up_ne _ _ (by omega)) H1 locs ls hS1 (wl_push ▸ hP1) (wl_push ▸ hD1) hl
  rw [va_up_self] at k1
  exact k1
theorem v_aast (X : vCx p s m args c cc own nL z0 D cy) {k kv t0 ci N j : Nat} {r : vw_C} {vs : List Value} {x : Int32} {f : Nat → Option Nat} (d : decode cc pc = .ok (.aastore, 1)) (hg : vAt n g k (.inl (cy t0, N, .inr (.inr (.inr (.inr f)))))) (ht : (tysV cy)[t0]? = some (cy t0, .object r.1)) (hv : vAt n g kv (.inr (ci, vs))) (hc : vwCl[ci]? = some r) (hx : x = nI j) (hj : j < N) (hN : N < 2 ^ 31)
    (kk : vV p l e R s m args below meth c nL z0 D cells slots Q n ad (va_up g k (.inl (cy t0, N, .inr (.inr (.inr (.inr (va_up f j (some (ad kv)))))))))  (pc + 1) L st) : vV p l e R s m args below meth c nL z0 D cells slots Q n ad g pc L (.ref (ad kv) :: .int x :: .ref (ad k) :: st) := fun H locs ls hS hP hD hl => by
  subst hx
  refine va_astq X.1 X.2.1 X.2.2.2.2.2.1 hP hD hS k t0 kv ci (wl_at hg) ht (wl_at hv) hc (vp_in_nI hj hN) d (fun H1 locs1 hP1 hD1 hS1 => ?_)
  rw [nI_clamp (by omega), wl_set hg.1] at hP1 hD1
  exact kk H1 locs1 ls hS1 hP1 hD1 hl
end MK
set_option maxRecDepth 100000 in
set_option maxHeartbeats 4000000 in
theorem c_X0_init (l : Launch) {z0 n k : Nat} {D : va_G} {cy : Nat → ClassId} {ad : Nat → Nat} {g : Nat → va_E} (hg : vAt n g k (.inr (0, [.int 0, .int 0, .int 0, .int 0, .int 0, .int 0, .int 0, .int 0, .int 0, .int 0]))) : Ct0 l yX0_init cX0_init 1 none 1 20 z0 D cy n ad g [.ref (ad k)] none (va_up g k (cH dfH)) := by
  refine ct_of (by decide +kernel) 0 [some (.ref (ad k))] (Nat.le_of_ble_eq_true rfl) rfl ?_
  intro p e s m below meth c X hr hlk hnm
  refine v_aload0 X dX0_init_0 rfl ?_
  refine v_objI X wm_X0_3 dX0_init_1 ⟨Nat.le_refl _, Nat.le_refl _⟩ (Nat.le_of_ble_eq_true rfl) ?_
  refine v_aload0 X dX0_init_4 rfl ?_
  refine v_ico (v := -1) X dX0_init_5 (by decide) ?_
  refine pf_X0_9 X dX0_init_6 hg ?_
  exact v_vret X hr hlk dX0_init_9 ⟨rfl, rfl, rfl, rfl⟩
set_option maxRecDepth 100000 in
set_option maxHeartbeats 4000000 in
theorem c_X1_init (l : Launch) {z0 n k : Nat} {D : va_G} {cy : Nat → ClassId} {ad : Nat → Nat} {g : Nat → va_E} : Ct0 l yX1_init cX1_init 1 none 1 20 z0 D cy n ad g [.ref (ad k)] none g := by
  refine ct_of (by decide +kernel) 0 [some (.ref (ad k))] (Nat.le_of_ble_eq_true rfl) rfl ?_
  intro p e s m below meth c X hr hlk hnm
  refine v_aload0 X dX1_init_0 rfl ?_
  refine v_objI X wm_X1_1 dX1_init_1 ⟨Nat.le_refl _, Nat.le_refl _⟩ (Nat.le_of_ble_eq_true rfl) ?_
  exact v_vret X hr hlk dX1_init_4 ⟨rfl, rfl, rfl, rfl⟩
/-- a village under its constructor's hands -/
def S0 : tS := (0, 0, fun _ _ => 0, fun _ _ => 0, fun _ => 0, fun _ => 0)
def hAi (cy : Nat → ClassId) (ad : Nat → Nat) (k i : Nat) : va_E := .inl (cy 2, 10, .inr (.inr (.inr (.inr (fun x => if x < i then some (ad (k + 3 + x)) else none)))))
def pAi (cy : Nat → ClassId) (ad : Nat → Nat) (k i : Nat) : va_E := .inl (cy 3, 12, .inr (.inr (.inr (.inr (fun x => if x < i then some (ad (k + 13 + x)) else none)))))
def gI (cy : Nat → ClassId) (ad : Nat → Nat) (k hi pi : Nat) (g : Nat → va_E) : Nat → va_E := fun j => if j < k then g j else if j = k then cV ad k S0 else if j = k + 1 then hAi cy ad k hi else if j = k + 2 then pAi cy ad k pi else if j < k + 13 then cH dfH else cP (fun _ => 0)
theorem gI_lo {cy : Nat → ClassId} {ad : Nat → Nat} {k hi pi j : Nat} {g : Nat → va_E} (h : j < k) : gI cy ad k hi pi g j = g j := if_pos h
theorem gI_k {cy : Nat → ClassId} {ad : Nat → Nat} {k hi pi : Nat} {g : Nat → va_E} : gI cy ad k hi pi g k = cV ad k S0 := by
  unfold gI; rw [if_neg (by omega), if_pos rfl]
theorem gI_h {cy : Nat → ClassId} {ad : Nat → Nat} {k hi pi : Nat} {g : Nat → va_E} : gI cy ad k hi pi g (k + 1) = hAi cy ad k hi := by
  unfold gI; rw [if_neg (by omega), if_neg (by omega), if_pos rfl]
theorem gI_p {cy : Nat → ClassId} {ad : Nat → Nat} {k hi pi : Nat} {g : Nat → va_E} : gI cy ad k hi pi g (k + 2) = pAi cy ad k pi := by
  unfold gI; rw [if_neg (by omega), if_neg (by omega), if_neg (by omega), if_pos rfl]
theorem gI_hh {cy : Nat → ClassId} {ad : Nat → Nat} {k hi pi j : Nat} {g : Nat → va_E} (h1 : k + 3 ≤ j) (h2 : j < k + 13) : gI cy ad k hi pi g j = cH dfH := by
  unfold gI; rw [if_neg (by omega), if_neg (by omega), if_neg (by omega), if_neg (by omega), if_pos h2]
theorem gI_pp {cy : Nat → ClassId} {ad : Nat → Nat} {k hi pi j : Nat} {g : Nat → va_E} (h1 : k + 13 ≤ j) : gI cy ad k hi pi g j = cP (fun _ => 0) := by
  unfold gI; rw [if_neg (by omega), if_neg (by omega), if_neg (by omega), if_neg (by omega), if_neg (by omega)]
theorem hAi_up {ad : Nat → Nat} {k i : Nat} : va_up (fun x => if x < i then some (ad (k + 3 + x)) else none) i (some (ad (k + 3 + i))) = (fun x => if x < i + 1 then some (ad (k + 3 + x)) else none) := by
  funext x
  by_cases h : x = i
  · subst h; rw [va_up_self, if_pos (by omega)]
  · rw [va_up_ne _ _ h]
    by_cases h2 : x < i
    · rw [if_pos h2, if_pos (by omega)]
    · rw [if_neg h2, if_neg (by omega)]
theorem pAi_up {ad : Nat → Nat} {k i : Nat} : va_up (fun x => if x < i then some (ad (k + 13 + x)) else none) i (some (ad (k + 13 + i))) = (fun x => if x < i + 1 then some (ad (k + 13 + x)) else none) := by
  funext x
  by_cases h : x = i
  · subst h; rw [va_up_self, if_pos (by omega)]
  · rw [va_up_ne _ _ h]
    by_cases h2 : x < i
    · rw [if_pos h2, if_pos (by omega)]
    · rw [if_neg h2, if_neg (by omega)]
theorem hAi_ad {cy : Nat → ClassId} {ad ad' : Nat → Nat} {k i : Nat} (h : ∀ j, j < k + 3 + i → ad' j = ad j) : hAi cy ad' k i = hAi cy ad k i := by
  unfold hAi
  have e : (fun x => if x < i then some (ad' (k + 3 + x)) else none) = (fun x => if x < i then some (ad (k + 3 + x)) else none) := by
    funext x
    split
    · rw [h _ (by omega)]
    · rfl
  rw [e]
theorem pAi_ad {cy : Nat → ClassId} {ad ad' : Nat → Nat} {k i : Nat} (h : ∀ j, j < k + 13 + i → ad' j = ad j) : pAi cy ad' k i = pAi cy ad k i := by
  unfold pAi
  have e : (fun x => if x < i then some (ad' (k + 13 + x)) else none) = (fun x => if x < i then some (ad (k + 13 + x)) else none) := by
    funext x
    split
    · rw [h _ (by omega)]
    · rfl
  rw [e]
theorem cV_ad {ad ad' : Nat → Nat} {k : Nat} {S : tS} (h1 : 1 < k + 3) (h : ∀ j, j < k + 3 → ad' j = ad j) : cV ad' k S = cV ad k S := by
  unfold cV
  rw [h 1 h1, h (k + 1) (by omega), h (k + 2) (by omega)]
/-- one more house: the same world told with the new addresses -/
theorem gI_nh {cy : Nat → ClassId} {ad ad' : Nat → Nat} {k i : Nat} {g : Nat → va_E} (h1 : 1 < k) (h : ∀ j, j < k + 3 + i → ad' j = ad j) (hi : i < 10) : ∀ j, j < k + 3 + i + 1 → gI cy ad' k (i + 1) 0 g j = va_up (va_up (gI cy ad k i 0 g) (k + 3 + i) (cH dfH)) (k + 1) (hAi cy ad' k (i + 1)) j := by
  intro j hj
  by_cases c1 : j = k + 1
  · subst c1; rw [va_up_self, gI_h]
  rw [va_up_ne _ _ c1]
  by_cases c2 : j = k + 3 + i
  · subst c2; rw [va_up_self, gI_hh (by omega) (by omega)]
  rw [va_up_ne _ _ c2]
  by_cases c3 : j < k
  · rw [gI_lo c3, gI_lo c3]
  by_cases c4 : j = k
  · subst c4; rw [gI_k, gI_k, cV_ad (by omega) (fun q hq => h q (by omega))]
  by_cases c5 : j = k + 2
  · subst c5; rw [gI_p, gI_p]; rfl
  rw [gI_hh (by omega) (by omega), gI_hh (by omega) (by omega)]
theorem gI_np {cy : Nat → ClassId} {ad ad' : Nat → Nat} {k i : Nat} {g : Nat → va_E} (h1 : 1 < k) (h : ∀ j, j < k + 13 + i → ad' j = ad j) (hi : i < 12) : ∀ j, j < k + 13 + i + 1 → gI cy ad' k 10 (i + 1) g j = va_up (va_up (gI cy ad k 10 i g) (k + 13 + i) (cP (fun _ => 0))) (k + 2) (pAi cy ad' k (i + 1)) j := by
  intro j hj
  by_cases c1 : j = k + 2
  · subst c1; rw [va_up_self, gI_p]
  rw [va_up_ne _ _ c1]
  by_cases c2 : j = k + 13 + i
  · subst c2; rw [va_up_self, gI_pp (by omega)]
  rw [va_up_ne _ _ c2]
  by_cases c3 : j < k
  · rw [gI_lo c3, gI_lo c3]
  by_cases c4 : j = k
  · subst c4; rw [gI_k, gI_k, cV_ad (by omega) (fun q hq => h q (by omega))]
  by_cases c5 : j = k + 1
  · subst c5; rw [gI_h, gI_h, hAi_ad (fun q hq => h q (by omega))]
  by_cases c6 : j < k + 13
  · rw [gI_hh (by omega) c6, gI_hh (by omega) c6]
  · rw [gI_pp (by omega), gI_pp (by omega)]
/-- what Village.<init> leaves -/
def PV (cy : Nat → ClassId) (ad : Nat → Nat) (k : Nat) (g : Nat → va_E) : CtP := fun r n' ad' g' => r = none ∧ n' = k + 25 ∧ (∀ j, j < k + 1 → ad' j = ad j) ∧ ∀ j, j < k + 25 → g' j = gI cy ad' k 10 12 g j
set_option maxRecDepth 100000 in
set_option maxHeartbeats 4000000 in
theorem c_X2_init (l : Launch) {z0 k : Nat} {D : va_G} {cy : Nat → ClassId} {ad : Nat → Nat} {g : Nat → va_E} (h1 : 1 < k) (hg : g k = .inr (2, [.null, .null, .null, .int 0, .int 0, .int 0, .int 0, .int 0, .int 0, .int 0])) : CtG l yX2_init cX2_init 3 none { frames := 2, cells := 24, slots := 194, locals := 60 } z0 D cy (k + 1) ad g [.ref (ad k), .ref (ad 1)] (PV cy ad k g) 24 194 := by
  refine ct_of (by decide +kernel) 1 [some (.ref (ad k)), some (.ref (ad 1)), none] (Nat.le_of_ble_eq_true rfl) rfl ?_
  intro p e s m below meth c X hr hlk hnm
  have hx4 := X.2.2.2.2.2.2.2.2.1
  have hx1 := X.2.2.2.2.2.2.2.1
  generalize ([.ref (ad k), .ref (ad 1)] : List Value).toArray = A at X ⊢
  generalize hQ : MQ below (QcR z0 D (PV cy ad k g)) A s 24 194 (fun q => z0 ≤ q) = Q
  -- the loops, from behind
  have hE : ∀ ad', (∀ j, j < k + 1 → ad' j = ad j) → vV p l e { frames := 2, cells := 24, slots := 194, locals := 60 } s m A below meth c 3 z0 D 24 194 Q (k + 25) ad' (gI cy ad' k 10 12 g) 81 [some (.ref (ad k)), some (.ref (ad 1)), none] [] := by
    intro ad' ha
    rw [← hQ]
    exact v_vret X hr hlk dX2_init_81 ⟨rfl, rfl, ha, fun j hj => rfl⟩
  have hP : ∀ d i, d + i = 12 → ∀ ad', (∀ j, j < k + 1 → ad' j = ad j) → vV p l e { frames := 2, cells := 24, slots := 194, locals := 60 } s m A below meth c 3 z0 D (12 + i) (122 + 6 * i) Q (k + 13 + i) ad' (gI cy ad' k 10 i g) 56 [some (.ref (ad k)), some (.ref (ad 1)), some (.int (nI i))] [] := by
    intro d
    induction d with
    | zero =>
      intro i hi ad' ha
      have : i = 12 := by omega
      subst this
      refine v_iload2 X dX2_init_56 rfl ?_
      refine v_bip (v := nI 12) X dX2_init_57 (by decide) ?_
      refine v_icmp_ge (tgt := 81) X dX2_init_59 (by decide) (fun _ => ?_) (fun hc => absurd (Int32.le_refl _) hc)
      exact (hE ad' ha).le (A := [some (.ref (ad k)), some (.ref (ad 1)), none]) ⟨rfl, rfl, trivial⟩
    | succ d ih =>
      intro i hi ad' ha
      refine v_iload2 X dX2_init_56 rfl ?_
      refine v_bip (v := nI 12) X dX2_init_57 (by decide) ?_
      refine v_icmp_ge (tgt := 81) X dX2_init_59 (by decide) (fun hc => absurd hc (nIge (by omega) (by decide))) (fun _ => ?_)
      refine v_aload0 X dX2_init_62 rfl ?_
      rw [← ha k (by omega)]
      refine gf_X2_19 X dX2_init_63 ⟨by omega, gI_k⟩ ?_
      refine v_iload2 X dX2_init_66 rfl ?_
      refine v_new (ci := 1) (fs := [.int 0, .int 0, .int 0, .int 0, .int 0, .int 0]) X inU_X1 tyX1 tyX1_ok wk_X2_17 wn_X1 wz_X1 rfl (by decide +kernel) ⟨by show 12 + i + 1 ≤ 24; omega, by show 122 + 6 * i + 6 ≤ 194; omega⟩ dX2_init_67 ?_
      intro ad2 h2
      refine v_dup X dX2_init_70 rfl ?_
      refine v_callIN (As := []) X (hx1 _ (List.mem_cons_of_mem _ (List.mem_cons_of_mem _ List.mem_cons_self))) wi_X1_init wz_X1 wc_X1_init rfl ⟨by decide, by decide, (show (parseMethodDescriptor yX1_init.desc).map (fun d => d.parameters.length) = some 0 from by decide +kernel)⟩ dX2_init_71 (c_X1_init l) rfl (Nat.le_of_ble_eq_true rfl) ⟨rfl, rfl, Nat.le_refl _, Nat.le_of_ble_eq_true rfl, by show 12 + i + 1 + 0 ≤ 24; omega, by show 122 + 6 * i + 6 + 0 ≤ 194; omega⟩ ?_
      rintro r1 n1 ad1 g1 ⟨rfl, rfl, rfl, rfl⟩
      show vV p l e _ s m _ below meth c 3 z0 D _ _ Q _ ad1 _ 74 [some (.ref (ad' k)), some (.ref (ad 1)), some (.int (nI i))] [.ref (ad1 (k + 13 + i)), .int (nI i), .ref (ad' (k + 2))]
      rw [← h2 (k + 2) (by omega), ← h2 k (by omega)]
      refine v_aast (t0 := 3) (j := i) X dX2_init_74 ⟨by omega, (va_up_ne _ _ (by omega)).trans gI_p⟩ rfl (vAt.up (e := gI cy ad' k 10 i g (k + 13 + i)) ⟨by omega, rfl⟩) (r := (RX1, TX1, 6)) rfl rfl (by omega) (by decide) ?_
      refine v_iinc2 (v := nI (i + 1)) X rfl (Nat.le_of_ble_eq_true rfl) dX2_init_75 (nI_inc i) ?_
      refine v_goto (tgt := 56) X dX2_init_78 (by decide) ?_
      have ef : (fun x => if x < i then some (ad1 (k + 13 + x)) else none) = (fun x => if x < i then some (ad' (k + 13 + x)) else none) := by
        funext x
        split
        · rw [h2 _ (by omega)]
        · rfl
      refine vV.eqw (ad' := ad1) (g' := gI cy ad1 k 10 (i + 1) g) (fun _ _ => rfl) (fun j hj => ?_) ?_
      · rw [gI_np h1 h2 (by omega) j hj, pAi, ← pAi_up, ef]
        rfl
      · rw [h2 k (by omega), ha k (by omega)]
        exact (ih (i + 1) (by omega) ad1 (fun j hj => (h2 j (by omega)).trans (ha j hj))).wd (by omega) (by omega)
  have hH : ∀ d i, d + i = 10 → ∀ ad', (∀ j, j < k + 1 → ad' j = ad j) → vV p l e { frames := 2, cells := 24, slots := 194, locals := 60 } s m A below meth c 3 z0 D (2 + i) (22 + 10 * i) Q (k + 3 + i) ad' (gI cy ad' k i 0 g) 29 [some (.ref (ad k)), some (.ref (ad 1)), some (.int (nI i))] [] := by
    intro d
    induction d with
    | zero =>
      intro i hi ad' ha
      have : i = 10 := by omega
      subst this
      refine v_iload2 X dX2_init_29 rfl ?_
      refine v_bip (v := nI 10) X dX2_init_30 (by decide) ?_
      refine v_icmp_ge (tgt := 54) X dX2_init_32 (by decide) (fun _ => ?_) (fun hc => absurd (Int32.le_refl _) hc)
      refine v_ico (v := nI 0) X dX2_init_54 (by decide) ?_
      refine v_istore2 X rfl (Nat.le_of_ble_eq_true rfl) dX2_init_55 ?_
      exact hP 12 0 rfl ad' ha
    | succ d ih =>
      intro i hi ad' ha
      refine v_iload2 X dX2_init_29 rfl ?_
      refine v_bip (v := nI 10) X dX2_init_30 (by decide) ?_
      refine v_icmp_ge (tgt := 54) X dX2_init_32 (by decide) (fun hc => absurd hc (nIge (by omega) (by decide))) (fun _ => ?_)
      refine v_aload0 X dX2_init_35 rfl ?_
      rw [← ha k (by omega)]
      refine gf_X2_13 X dX2_init_36 ⟨by omega, gI_k⟩ ?_
      refine v_iload2 X dX2_init_39 rfl ?_
      refine v_new (ci := 0) (fs := [.int 0, .int 0, .int 0, .int 0, .int 0, .int 0, .int 0, .int 0, .int 0, .int 0]) X inU_X0 tyX0 tyX0_ok wk_X2_11 wn_X0 wz_X0 rfl (by decide +kernel) ⟨by show 2 + i + 1 ≤ 24; omega, by show 22 + 10 * i + 10 ≤ 194; omega⟩ dX2_init_40 ?_
      intro ad2 h2
      refine v_dup X dX2_init_43 rfl ?_
      refine v_callIN (As := []) X (hx1 _ (List.mem_cons_of_mem _ List.mem_cons_self)) wi_X0_init wz_X0 wc_X0_init rfl ⟨by decide, by decide, (show (parseMethodDescriptor yX0_init.desc).map (fun d => d.parameters.length) = some 0 from by decide +kernel)⟩ dX2_init_44 (c_X0_init l (vAt.up (e := gI cy ad' k i 0 g (k + 3 + i)) ⟨by omega, rfl⟩)) rfl (Nat.le_of_ble_eq_true rfl) ⟨rfl, rfl, Nat.le_refl _, Nat.le_of_ble_eq_true rfl, by show 2 + i + 1 + 0 ≤ 24; omega, by show 22 + 10 * i + 10 + 0 ≤ 194; omega⟩ ?_
      rintro r1 n1 ad1 g1 ⟨rfl, rfl, rfl, rfl⟩
      refine vV.gg (va_up_up _ _ _ _) ?_
      show vV p l e _ s m _ below meth c 3 z0 D _ _ Q _ ad1 _ 47 [some (.ref (ad' k)), some (.ref (ad 1)), some (.int (nI i))] [.ref (ad1 (k + 3 + i)), .int (nI i), .ref (ad' (k + 1))]
      rw [← h2 (k + 1) (by omega), ← h2 k (by omega)]
      refine v_aast (t0 := 2) (j := i) X dX2_init_47 ⟨by omega, (va_up_ne _ _ (by omega)).trans gI_h⟩ rfl (vAt.up (e := gI cy ad' k i 0 g (k + 3 + i)) ⟨by omega, rfl⟩) (r := (RX0, TX0, 10)) rfl rfl (by omega) (by decide) ?_
      refine v_iinc2 (v := nI (i + 1)) X rfl (Nat.le_of_ble_eq_true rfl) dX2_init_48 (nI_inc i) ?_
      refine v_goto (tgt := 29) X dX2_init_51 (by decide) ?_
      have ef : (fun x => if x < i then some (ad1 (k + 3 + x)) else none) = (fun x => if x < i then some (ad' (k + 3 + x)) else none) := by
        funext x
        split
        · rw [h2 _ (by omega)]
        · rfl
      refine vV.eqw (ad' := ad1) (g' := gI cy ad1 k (i + 1) 0 g) (fun _ _ => rfl) (fun j hj => ?_) ?_
      · rw [gI_nh h1 h2 (by omega) j hj, hAi, ← hAi_up, ef]
      · rw [h2 k (by omega), ha k (by omega)]
        exact (ih (i + 1) (by omega) ad1 (fun j hj => (h2 j (by omega)).trans (ha j hj))).wd (by omega) (by omega)
  refine v_aload0 X dX2_init_0 rfl ?_
  refine v_objI X wm_X2_3 dX2_init_1 ⟨Nat.le_of_ble_eq_true rfl, Nat.le_of_ble_eq_true rfl⟩ (Nat.le_of_ble_eq_true rfl) ?_
  refine v_aload0 X dX2_init_4 rfl ?_
  refine v_bip (v := nI 10) X dX2_init_5 (by decide) ?_
  refine v_newq (t0 := 2) (N := 10) X rfl (by omega) wk_X2_11 hx4.1 rfl ⟨Nat.le_of_ble_eq_true rfl, Nat.le_of_ble_eq_true rfl⟩ dX2_init_7 ?_
  intro ad1 a1
  rw [← a1 k (by omega)]
  refine pf_X2_13 X hnm dX2_init_10 ⟨by omega, (va_up_ne _ _ (by omega)).trans hg⟩ ?_
  refine v_aload0 X dX2_init_13 rfl ?_
  refine v_bip (v := nI 12) X dX2_init_14 (by decide) ?_
  refine v_newq (t0 := 3) (N := 12) X rfl (by omega) wk_X2_17 hx4.2.1 rfl ⟨Nat.le_of_ble_eq_true rfl, Nat.le_of_ble_eq_true rfl⟩ dX2_init_16 ?_
  intro ad2 a2
  rw [← a2 k (by omega), ← a2 (k + 1) (by omega)]
  refine pf_X2_19 X hnm dX2_init_19 ⟨by omega, (va_up_ne _ _ (by omega)).trans (va_up_self _ _ _)⟩ ?_
  refine v_aload0 X dX2_init_22 rfl ?_
  refine v_aload1 X dX2_init_23 rfl ?_
  refine pf_X2_23 X hnm dX2_init_24 ⟨by omega, va_up_self _ _ _⟩ ?_
  refine v_ico (v := nI 0) X dX2_init_27 (by decide) ?_
  refine v_istore2 X rfl (Nat.le_of_ble_eq_true rfl) dX2_init_28 ?_
  refine vV.eqw (ad' := ad2) (g' := gI cy ad2 k 0 0 g) (fun _ _ => rfl) (fun j hj => ?_) ?_
  · rw [va_up_up]
    by_cases c1 : j = k
    · subst c1; rw [va_up_self, gI_k, ← a1 1 (by omega), ← a2 1 (by omega)]; rfl
    rw [va_up_ne _ _ c1]
    by_cases c2 : j = k + 2
    · subst c2; rw [gI_p, va_up_self]
      unfold pAi
      congr 6
    rw [va_up_ne _ _ c2, va_up_ne _ _ c1]
    by_cases c3 : j = k + 1
    · subst c3; rw [gI_h, va_up_self]
      unfold hAi
      congr 6
    rw [va_up_ne _ _ c3, gI_lo (by omega)]
  · rw [a2 k (by omega), a1 k (by omega)]
    exact hH 10 0 rfl ad2 (fun j hj => (a2 j (by omega)).trans (a1 j hj))
/-- what Weather.<init> leaves -/
def iZ (cy : Nat → ClassId) (N : Nat) : va_E := .inl (cy 0, N, .inl (fun _ => 0))
def PW (cy : Nat → ClassId) (ad : Nat → Nat) (k : Nat) (g : Nat → va_E) : CtP := fun r n' ad' g' => r = none ∧ n' = k + 3 ∧ (∀ j, j < k + 1 → ad' j = ad j) ∧ g' k = .inr (3, [.ref (ad' (k + 1)), .ref (ad' (k + 2))]) ∧ g' (k + 1) = iZ cy 28 ∧ g' (k + 2) = iZ cy 28 ∧ ∀ j, j < k → g' j = g j
set_option maxRecDepth 100000 in
set_option maxHeartbeats 4000000 in
theorem c_X3_init (l : Launch) {z0 k : Nat} {D : va_G} {cy : Nat → ClassId} {ad : Nat → Nat} {g : Nat → va_E} (hg : g k = .inr (3, [.null, .null])) : CtG l yX3_init cX3_init 1 none { frames := 1, cells := 2, slots := 56, locals := 20 } z0 D cy (k + 1) ad g [.ref (ad k)] (PW cy ad k g) 2 56 := by
  refine ct_of (by decide +kernel) 0 [some (.ref (ad k))] (Nat.le_of_ble_eq_true rfl) rfl ?_
  intro p e s m below meth c X hr hlk hnm
  generalize ([.ref (ad k)] : List Value).toArray = A at X ⊢
  generalize hQ : MQ below (QcR z0 D (PW cy ad k g)) A s 2 56 (fun q => z0 ≤ q) = Q
  refine v_aload0 X dX3_init_0 rfl ?_
  refine v_objI X wm_X3_1 dX3_init_1 ⟨Nat.le_of_ble_eq_true rfl, Nat.le_of_ble_eq_true rfl⟩ (Nat.le_of_ble_eq_true rfl) ?_
  refine v_aload0 X dX3_init_4 rfl ?_
  refine v_bip (v := nI 28) X dX3_init_5 (by decide) ?_
  refine v_newi (N := 28) X rfl (by omega) ⟨Nat.le_of_ble_eq_true rfl, Nat.le_of_ble_eq_true rfl⟩ dX3_init_7 ?_
  intro ad1 a1
  rw [← a1 k (by omega)]
  refine pf_X3_9 X hnm dX3_init_9 ⟨by omega, (va_up_ne _ _ (by omega)).trans hg⟩ ?_
  refine v_aload0 X dX3_init_12 rfl ?_
  refine v_bip (v := nI 28) X dX3_init_13 (by decide) ?_
  refine v_newi (N := 28) X rfl (by omega) ⟨Nat.le_of_ble_eq_true rfl, Nat.le_of_ble_eq_true rfl⟩ dX3_init_15 ?_
  intro ad2 a2
  rw [← a2 k (by omega), ← a2 (k + 1) (by omega)]
  refine pf_X3_13 X hnm dX3_init_17 ⟨by omega, (va_up_ne _ _ (by omega)).trans (va_up_self _ _ _)⟩ ?_
  rw [← hQ]
  refine v_vret X hr hlk dX3_init_20 ⟨rfl, rfl, fun j hj => (a2 j (by omega)).trans (a1 j hj), va_up_self _ _ _, ?_, ?_, fun j hj => ?_⟩
  · rw [va_up_ne _ _ (by omega), va_up_ne _ _ (by omega), va_up_ne _ _ (by omega), va_up_self]; rfl
  · rw [va_up_ne _ _ (by omega), va_up_self]; rfl
  · rw [va_up_ne _ _ (by omega), va_up_ne _ _ (by omega), va_up_ne _ _ (by omega), va_up_ne _ _ (by omega)]
/-- the class's object and all below it, made anew -/
def gW0 (cy : Nat → ClassId) (ad : Nat → Nat) : Nat → va_E := fun j => if j = 0 then .inr (4, [.ref (ad 1), .ref (ad 4), .ref (ad 29)]) else if j = 1 then .inr (3, [.ref (ad 2), .ref (ad 3)]) else iZ cy 28
def gR0 (cy : Nat → ClassId) (ad : Nat → Nat) : Nat → va_E := gI cy ad 29 10 12 (gI cy ad 4 10 12 (gW0 cy ad))
def PR (cy : Nat → ClassId) (ad : Nat → Nat) : CtP := fun r n' ad' g' => r = none ∧ n' = 54 ∧ ad' 0 = ad 0 ∧ ∀ j, j < 54 → g' j = gR0 cy ad' j
theorem gI_adk {cy : Nat → ClassId} {ad ad' : Nat → Nat} {k j : Nat} {g : Nat → va_E} (h1 : 1 < k) (h : ∀ q, q < k + 25 → ad' q = ad q) : gI cy ad' k 10 12 g j = gI cy ad k 10 12 g j := by
  unfold gI
  rw [cV_ad (by omega) (fun q hq => h q (by omega)), hAi_ad (fun q hq => h q (by omega)), pAi_ad (fun q hq => h q (by omega))]
theorem gI_gk {cy : Nat → ClassId} {ad : Nat → Nat} {k j : Nat} {g g' : Nat → va_E} (h : ∀ q, q < k → g' q = g q) : gI cy ad k 10 12 g' j = gI cy ad k 10 12 g j := by
  unfold gI
  by_cases c : j < k
  · rw [if_pos c, if_pos c, h j c]
  · rw [if_neg c, if_neg c]
set_option maxRecDepth 100000 in
set_option maxHeartbeats 4000000 in
theorem c_X4_init (l : Launch) {z0 : Nat} {D : va_G} {cy : Nat → ClassId} {ad : Nat → Nat} {g : Nat → va_E} (hg : g 0 = .inr (4, [.null, .null, .null])) : CtG l yX4_init cX4_init 1 none { frames := 3, cells := 53, slots := 466, locals := 100 } z0 D cy 1 ad g [.ref (ad 0)] (PR cy ad) 53 466 := by
  refine ct_of (by decide +kernel) 0 [some (.ref (ad 0))] (Nat.le_of_ble_eq_true rfl) rfl ?_
  intro p e s m below meth c X hr hlk hnm
  have hx1 := X.2.2.2.2.2.2.2.1
  generalize ([.ref (ad 0)] : List Value).toArray = A at X ⊢
  generalize hQ : MQ below (QcR z0 D (PR cy ad)) A s 53 466 (fun q => z0 ≤ q) = Q
  refine v_aload0 X dX4_init_0 rfl ?_
  refine v_objI X wm_X4_1 dX4_init_1 ⟨Nat.le_of_ble_eq_true rfl, Nat.le_of_ble_eq_true rfl⟩ (Nat.le_of_ble_eq_true rfl) ?_
  refine v_aload0 X dX4_init_4 rfl ?_
  refine v_new (ci := 3) (fs := [.null, .null]) X inU_X3 tyX3 tyX3_ok wk_X4_7 wn_X3 wz_X3 rfl (by decide +kernel) ⟨Nat.le_of_ble_eq_true rfl, Nat.le_of_ble_eq_true rfl⟩ dX4_init_5 ?_
  intro ad1 a1
  refine v_dup X dX4_init_8 rfl ?_
  refine v_callIN (As := []) X (hx1 _ List.mem_cons_self) wi_X3_init wz_X3 wc_X3_init rfl ⟨by decide, by decide, (show (parseMethodDescriptor yX3_init.desc).map (fun d => d.parameters.length) = some 0 from by decide +kernel)⟩ dX4_init_9 (c_X3_init l (k := 1) (va_up_self _ _ _)) rfl (Nat.le_of_ble_eq_true rfl) ⟨rfl, rfl, Nat.le_of_ble_eq_true rfl, Nat.le_of_ble_eq_true rfl, Nat.le_of_ble_eq_true rfl, Nat.le_of_ble_eq_true rfl⟩ ?_
  rintro r1 n1 ad2 g2 ⟨rfl, rfl, a2, w1, w2, w3, w0⟩
  show vV p l e _ s m _ below meth c 1 z0 D _ _ Q 4 ad2 g2 12 [some (.ref (ad 0))] [.ref (ad1 1), .ref (ad 0)]
  rw [← a1 0 (by omega), ← a2 0 (by omega), ← a2 1 (by omega)]
  have w0' : g2 0 = .inr (4, [.null, .null, .null]) := (w0 0 (by omega)).trans ((va_up_ne _ _ (by omega)).trans hg)
  have e20 : ad2 0 = ad 0 := (a2 0 (by omega)).trans (a1 0 (by omega))
  refine pf_X4_10 (k := 0) X hnm dX4_init_12 ⟨by omega, w0'⟩ ?_
  refine v_aload0 X dX4_init_15 rfl ?_
  refine v_new (ci := 2) (fs := [.null, .null, .null, .int 0, .int 0, .int 0, .int 0, .int 0, .int 0, .int 0]) X inU_X2 tyX2 tyX2_ok wk_X4_16 wn_X2 wz_X2 rfl (by decide +kernel) ⟨Nat.le_of_ble_eq_true rfl, Nat.le_of_ble_eq_true rfl⟩ dX4_init_16 ?_
  intro ad3 a3
  refine v_dup X dX4_init_19 rfl ?_
  rw [← a3 0 (by omega), ← a3 1 (by omega)]
  refine v_aload0 X dX4_init_20 rfl ?_
  refine gf_X4_10 X dX4_init_21 (vAt.ne (k := 0) (vAt.up (e := g2 0) ⟨by omega, rfl⟩) (by omega)) ?_
  refine cl_X4_18 X dX4_init_24 (c_X2_init l (k := 4) (by omega) (va_up_self _ _ _)) (Nat.le_of_ble_eq_true rfl) ⟨rfl, rfl, Nat.le_of_ble_eq_true rfl, Nat.le_of_ble_eq_true rfl, Nat.le_of_ble_eq_true rfl, Nat.le_of_ble_eq_true rfl⟩ ?_
  rintro r1 n1 ad4 g4 ⟨rfl, rfl, a4, w4⟩
  show vV p l e _ s m _ below meth c 1 z0 D _ _ Q 29 ad4 g4 27 [some (.ref (ad3 0))] [.ref (ad3 4), .ref (ad3 0)]
  rw [← a4 0 (by omega), ← a4 4 (by omega)]
  have w40 : g4 0 = .inr (4, [.ref (ad4 1), .null, .null]) := by rw [w4 0 (by omega), gI_lo (by omega), va_up_ne _ _ (by omega), va_up_self, a4 1 (by omega)]
  refine pf_X4_21 (k := 0) X hnm dX4_init_27 ⟨by omega, w40⟩ ?_
  refine v_aload0 X dX4_init_30 rfl ?_
  refine v_new (ci := 2) (fs := [.null, .null, .null, .int 0, .int 0, .int 0, .int 0, .int 0, .int 0, .int 0]) X inU_X2 tyX2 tyX2_ok wk_X4_16 wn_X2 wz_X2 rfl (by decide +kernel) ⟨Nat.le_of_ble_eq_true rfl, Nat.le_of_ble_eq_true rfl⟩ dX4_init_31 ?_
  intro ad5 a5
  refine v_dup X dX4_init_34 rfl ?_
  rw [← a5 0 (by omega), ← a5 1 (by omega), ← a5 4 (by omega)]
  refine v_aload0 X dX4_init_35 rfl ?_
  refine gf_X4_10 X dX4_init_36 (vAt.ne (k := 0) (vAt.up (e := g4 0) ⟨by omega, rfl⟩) (by omega)) ?_
  refine cl_X4_18 X dX4_init_39 (c_X2_init l (k := 29) (by omega) (va_up_self _ _ _)) (Nat.le_of_ble_eq_true rfl) ⟨rfl, rfl, Nat.le_of_ble_eq_true rfl, Nat.le_of_ble_eq_true rfl, Nat.le_of_ble_eq_true rfl, Nat.le_of_ble_eq_true rfl⟩ ?_
  rintro r1 n1 ad6 g6 ⟨rfl, rfl, a6, w6⟩
  show vV p l e _ s m _ below meth c 1 z0 D _ _ Q 54 ad6 g6 42 [some (.ref (ad5 0))] [.ref (ad5 29), .ref (ad5 0)]
  rw [← a6 0 (by omega), ← a6 29 (by omega)]
  have w60 : g6 0 = .inr (4, [.ref (ad6 1), .ref (ad6 4), .null]) := by rw [w6 0 (by omega), gI_lo (by omega), va_up_ne _ _ (by omega), va_up_self, a6 1 (by omega), a6 4 (by omega)]
  refine pf_X4_25 (k := 0) X hnm dX4_init_42 ⟨by omega, w60⟩ ?_
  rw [← hQ]
  refine v_vret X hr hlk dX4_init_45 ⟨rfl, rfl, ?_, fun j hj => ?_⟩
  · rw [a6 0 (by omega), a5 0 (by omega), a4 0 (by omega), a3 0 (by omega), e20]
  · unfold gR0
    by_cases c0 : j = 0
    · subst c0; rw [va_up_self, gI_lo (by omega), gI_lo (by omega)]; rfl
    rw [va_up_ne _ _ c0, w6 j hj]
    by_cases c1 : j < 29
    · rw [gI_lo c1, gI_lo c1, va_up_ne _ _ (by omega), va_up_ne _ _ c0, w4 j (by omega), ← gI_adk (by omega) (fun q hq => (a6 q (by omega)).trans (a5 q (by omega)))]
      by_cases c2 : j < 4
      · rw [gI_lo c2, gI_lo c2, va_up_ne _ _ (by omega), va_up_ne _ _ c0]
        have e6 : ∀ q, q < 4 → ad6 q = ad2 q := fun q hq => by rw [a6 q (by omega), a5 q (by omega), a4 q (by omega), a3 q (by omega)]
        unfold gW0
        rw [if_neg c0]
        by_cases c3 : j = 1
        · subst c3; rw [if_pos rfl, w1, e6 2 (by omega), e6 3 (by omega)]
        rw [if_neg c3]
        by_cases c4 : j = 2
        · subst c4; exact w2
        · have : j = 3 := by omega
          subst this; exact w3
      · unfold gI
        rw [if_neg c2, if_neg c2]
    · unfold gI
      rw [if_neg c1, if_neg c1]
