/-! rows: arrays of int arrays, of the law's houses; new int[n][m]; a world told anew by place -/
section MKA
variable {p : Program} {l : Launch} {e : Env} {R : Room} {s : State} {m : MethodId} {args : Array Value} {below : List Frame} {meth : Method} {c : Code} {cells slots : Nat} {Q : State → Prop}
variable {cc : ByteArray} {own : String} {nL z0 n pc : Nat} {D : va_G} {cy : Nat → ClassId} {ad : Nat → Nat} {g : Nat → va_E} {L : List (Option Value)} {st : List Value}
def iA (cy : Nat → ClassId) (N : Nat) (f : Nat → Int32) : va_E := .inl (cy 0, N, .inl f)
def aA (cy : Nat → ClassId) (N : Nat) (f : Nat → Option Nat) : va_E := .inl (cy 4, N, .inr (.inr (.inr (.inr f))))
def hA (cy : Nat → ClassId) (N : Nat) (f : Nat → Option Nat) : va_E := .inl (cy 1, N, .inr (.inr (.inr (.inr f))))
/-- N cells from the place b on -/
def rf (ad : Nat → Nat) (b N : Nat) : Nat → Option Nat := fun i => if i < N then some (ad (b + i)) else none
theorem rf_at {b N j : Nat} (h : j < N) : rf ad b N j = some (ad (b + j)) := if_pos h
theorem rf_ad {ad ad' : Nat → Nat} {b N : Nat} (h : ∀ i, i < N → ad' (b + i) = ad (b + i)) : rf ad' b N = rf ad b N := by
  funext i
  unfold rf
  split
  · rename_i q; rw [h i q]
  · rfl
theorem rf_up {ad ad' : Nat → Nat} {b i : Nat} {q : Nat} (h : ∀ j, j < i → ad' (b + j) = ad (b + j)) (hq : ad' (b + i) = q) : va_up (rf ad b i) i (some q) = rf ad' b (i + 1) := by
  funext j
  unfold rf
  by_cases e : j = i
  · subst e
    rw [va_up_self, if_pos (by omega), hq]
  · rw [va_up_ne _ _ e]
    by_cases e2 : j < i
    · rw [if_pos e2, if_pos (by omega), h j e2]
    · rw [if_neg e2, if_neg (by omega)]
theorem rf_0 {b : Nat} : rf ad b 0 = fun _ => none := by
  funext j
  unfold rf
  rw [if_neg (by omega)]
/-! the same cells, told by other places -/
theorem wl_re {H : Heap} {n' : Nat} {ad' : Nat → Nat} {g' : Nat → va_E} (h : va_P D vwCl (wl n ad g) H) (f : Nat → Nat) (hf : ∀ k, k < n' → f k < n ∧ ad' k = ad (f k) ∧ g' k = g (f k)) : va_P D vwCl (wl n' ad' g') H := by
  intro k q hk
  have hk' : k < n' := by
    rcases Nat.lt_or_ge k n' with h1 | h1
    · exact h1
    · rw [List.getElem?_eq_none (by simp [wl]; omega)] at hk; cases hk
  obtain ⟨h1, h2, h3⟩ := hf k hk'
  rw [wl_get hk'] at hk
  cases hk
  rw [h2, h3]
  exact h (f k) _ (wl_get h1)
theorem wl_reD {A : Nat → Prop} {n' : Nat} {ad' : Nat → Nat} {g' : Nat → va_E} (h : va_D A (wl n ad g)) (f : Nat → Nat) (hf : ∀ k, k < n' → f k < n ∧ ad' k = ad (f k) ∧ g' k = g (f k)) (hi : ∀ i j, i < n' → j < n' → f i = f j → i = j) : va_D A (wl n' ad' g') := by
  have key : ∀ (k : Nat) (q : Nat × va_E), (wl n' ad' g')[k]? = some q → k < n' ∧ (wl n ad g)[f k]? = some q := by
    intro k q hk
    have hk' : k < n' := by
      rcases Nat.lt_or_ge k n' with h1 | h1
      · exact h1
      · rw [List.getElem?_eq_none (by simp [wl]; omega)] at hk; cases hk
    obtain ⟨h1, h2, h3⟩ := hf k hk'
    rw [wl_get hk'] at hk
    cases hk
    rw [h2, h3]
    exact ⟨hk', wl_get h1⟩
  refine ⟨fun i j x y h1 h2 hxy => ?_, fun k q hk => ?_⟩
  · obtain ⟨a1, a2⟩ := key i x h1
    obtain ⟨b1, b2⟩ := key j y h2
    exact hi i j a1 b1 (h.1 _ _ _ _ a2 b2 hxy)
  · obtain ⟨a1, a2⟩ := key k q hk
    exact h.2 _ _ a2
theorem vV.re {n' : Nat} {ad' : Nat → Nat} {g' : Nat → va_E} (f : Nat → Nat) (hf : ∀ k, k < n' → f k < n ∧ ad' k = ad (f k) ∧ g' k = g (f k)) (hi : ∀ i j, i < n' → j < n' → f i = f j → i = j) (k : vV p l e R s m args below meth c nL z0 D cells slots Q n' ad' g' pc L st) : vV p l e R s m args below meth c nL z0 D cells slots Q n ad g pc L st := fun H locs ls hS hP hD h => k H locs ls hS (wl_re hP f hf) (wl_reD hD f hf hi) h
theorem cy_int (X : vCx p s m args c cc own nL z0 D cy) : s.vm.findClass "[I" = some (cy 0) := va_nm_int (X.2.2.2.2.2.1.2 0 (cy 0, .int) rfl).2
theorem nm_A : (FieldType.array .int).toString = "[I" := by decide +kernel
theorem nm_AA : "[" ++ (FieldType.array .int).toString = "[[I" := by decide +kernel
theorem vCx.oA (X : vCx p s m args c cc own nL z0 D cy) : (Cond.arrayOver (.array .int)).before #[] s = true := X.2.2.2.2.2.2.2.2.1.2.2.2
theorem v_newA (X : vCx p s m args c cc own nL z0 D cy) {x : Int32} {N index : Nat} (hx : x = nI N) (hN : N < 1000) (wk : Cond.classLink own index "[I" ∈ UW) (hR : cells + 1 ≤ R.cells ∧ slots + N ≤ R.slots) (d : decode cc pc = .ok (.anewarray index, 3))
    (kk : ∀ ad' : Nat → Nat, (∀ j, j < n → ad' j = ad j) → vV p l e R s m args below meth c nL z0 D (cells + 1) (slots + N) Q (n + 1) ad' (va_up g n (aA cy N (fun _ => none))) (pc + 3) L (.ref (ad' n) :: st)) : vV p l e R s m args below meth c nL z0 D cells slots Q n ad g pc L (.int x :: st) := fun H locs ls hS hP hD hl => by
  subst hx
  have hc : (nI N).toNatClampNeg = N := nI_clamp (by omega)
  refine W.anewA (t := .int) X.1 X.2.1 X.2.2.2.1 (by rw [nm_A]; exact X.2.2.2.2.1 _ wk) (over_moved (Vm.Alike.refl s.vm) X.oA) rfl d rfl (Int32.not_lt.mpr (nI_pos' (by omega))) (by rw [hc]; omega) hR.1 (by rw [hc]; exact hR.2) (fun cA kA comp f1 f2 f3 f4 => ?_)
  rw [hc]
  have hA : cA = cy 4 := by
    have h2 := (X.2.2.2.2.2.1.2 4 (cy 4, .array .int) rfl).2
    exact Option.some.inj (f1.symm.trans h2)
  subst hA
  generalize hH1 : H.push ({ cls := cy 4, slots := Array.replicate N .null, vm := .none } : Cell) = H1
  have z1 : H1.size = H.size + 1 := by rw [← hH1, Array.size_push]
  have e1 : H1[H.size]? = some (arrV (cy 4) N (fun _ => .null)) := by rw [← hH1, Array.getElem?_push_size, ← arrV_new]
  have o1 : ∀ q : Nat, q < H.size → H1[q]? = H[q]? := fun q hq => by rw [← hH1, Array.getElem?_push, if_neg (Nat.ne_of_lt hq)]
  have hk : ∀ (k : Nat) (x : Nat × va_E), (wl n ad g)[k]? = some x → H1[x.1]? = H[x.1]? := fun k x hx => o1 x.1 ((hP k x hx).lt)
  have k1 := kk (va_up ad n H.size) (fun j hj => va_up_ne _ _ (by omega)) H1 locs ls ⟨Nat.le_trans hS.1 (by omega), fun x h1 h2 => (o1 x (Nat.lt_of_lt_of_le h1 hS.1)).trans (hS.2.1 x h1 h2), hS.2.2⟩
    (wl_push ▸ (hP.kept hk).app (fun k x hx => by
      have hz : k < 1 := (List.getElem?_eq_some_iff.mp hx).1
      rw [show k = 0 by omega] at hx
      cases hx
      show H1[H.size]? = some (vp_cell _ _)
      rw [vp_cell_q]
      exact e1)) (wl_push ▸ hD.push hP rfl (Nat.le_trans X.2.2.2.2.2.2.1 hS.1)) hl
  rw [va_up_self] at k1
  exact k1
theorem v_aastA (X : vCx p s m args c cc own nL z0 D cy) {k kv N M j : Nat} {x : Int32} {f : Nat → Option Nat} {h : Nat → Int32} (d : decode cc pc = .ok (.aastore, 1)) (hg : vAt n g k (aA cy N f)) (hv : vAt n g kv (iA cy M h)) (hx : x = nI j) (hj : j < N) (hN : N < 2 ^ 31)
    (kk : vV p l e R s m args below meth c nL z0 D cells slots Q n ad (va_up g k (aA cy N (va_up f j (some (ad kv))))) (pc + 1) L st) : vV p l e R s m args below meth c nL z0 D cells slots Q n ad g pc L (.ref (ad kv) :: .int x :: .ref (ad k) :: st) := fun H locs ls hS hP hD hl => by
  subst hx
  obtain ⟨comp, c4, kA, h1, -, h3, h4, h5⟩ := arrayOverA_spec X.oA
  rw [nm_A] at h1
  have e0 : comp = cy 0 := Option.some.inj (h1.symm.trans (cy_int X))
  have e4 : c4 = cy 4 := Option.some.inj (h5.symm.trans (X.2.2.2.2.2.1.2 4 (cy 4, .array .int) rfl).2)
  subst e0
  subst e4
  obtain ⟨kI, hkI, -⟩ := Vm.findClass_spec h1
  have hin := vp_in_nI hj hN
  have hlt : (nI j).toNatClampNeg < N := Nat.not_le.mp fun q => hin (Or.inr q)
  refine W.aast X.1 X.2.1 (hP k _ (wl_at hg)) (fun q h => by cases h) (fun h => by cases h) h3 h4 rfl hkI ⟨fun q => hin (Or.inl q), by show _ < (arrV _ _ _).slots.size; rw [arrV_size]; exact hlt⟩ (hP kv _ (wl_at hv)) (fun q h => by cases h) hkI (va_asg _ _) rfl rfl d fun H1 e z oq => ?_
  have eq : vp_cell (cy 4) (N, .inr (.inr (.inr (.inr (va_up f j (some (ad kv))))))) = (vp_cell (cy 4) (N, .inr (.inr (.inr (.inr f))))).setSlot (nI j).toNatClampNeg (.ref (ad kv)) := by
    rw [vp_cell_q, vp_cell_q, arrV_store, nI_clamp (by omega)]
    congr 2
    funext q
    by_cases hq : q = j
    · subst hq; simp [updV, va_up, va_rf]
    · simp [updV, va_up, hq]
  have k1 := kk H1 _ ls (hS.put (k := (nI j).toNatClampNeg) z oq (hD.2 k _ (wl_at hg))) (wl_set hg.1 ▸ hP.set hD (wl_at hg) (by
    show H1[ad k]? = some (vp_cell _ _)
    rw [e]
    exact congrArg some eq.symm) oq) (wl_set hg.1 ▸ hD.set (wl_at hg)) hl
  exact k1
theorem v_aaldA (X : vCx p s m args c cc own nL z0 D cy) {k N j a : Nat} {x : Int32} {f : Nat → Option Nat} (d : decode cc pc = .ok (.aaload, 1)) (hg : vAt n g k (aA cy N f)) (hx : x = nI j) (hj : j < N) (hN : N < 2 ^ 31) (hf : f j = some a) (kk : vV p l e R s m args below meth c nL z0 D cells slots Q n ad g (pc + 1) L (.ref a :: st)) : vV p l e R s m args below meth c nL z0 D cells slots Q n ad g pc L (.int x :: .ref (ad k) :: st) := fun H locs ls hS hP hD hl => by
  subst hx
  have hin := vp_in_nI hj hN
  refine W.aald (v := .ref a) (ty := .array .int) X.1 X.2.1 (hP k _ (wl_at hg)) ((X.2.2.2.2.2.1.2 4 (cy 4, .array .int) rfl).1 N (fun j => va_rf (f j))) rfl (fun q => by cases q) (by show ¬ (_ < 0 ∨ (arrV _ _ _).slots.size ≤ _); rw [arrV_size]; exact hin) (by
    show (arrV _ _ _).slots[_]? = _
    rw [nI_clamp (by omega), arrV_read _ _ hj, hf]
    rfl) rfl rfl d (kk H locs ls hS hP hD hl)
/-- a row of an array of int arrays; a house of the law's -/
theorem v_aaldR (X : vCx p s m args c cc own nL z0 D cy) {k N b j : Nat} {x : Int32} (d : decode cc pc = .ok (.aaload, 1)) (hg : vAt n g k (aA cy N (rf ad b N))) (hx : x = nI j) (hj : j < N) (hN : N < 2 ^ 31) (kk : vV p l e R s m args below meth c nL z0 D cells slots Q n ad g (pc + 1) L (.ref (ad (b + j)) :: st)) : vV p l e R s m args below meth c nL z0 D cells slots Q n ad g pc L (.int x :: .ref (ad k) :: st) := v_aaldA X d hg hx hj hN (rf_at hj) kk
theorem v_aaldL (X : vCx p s m args c cc own nL z0 D cy) {k N b j : Nat} {x : Int32} (d : decode cc pc = .ok (.aaload, 1)) (hg : vAt n g k (hA cy N (rf ad b N))) (hx : x = nI j) (hj : j < N) (hN : N < 2 ^ 31) (kk : vV p l e R s m args below meth c nL z0 D cells slots Q n ad g (pc + 1) L (.ref (ad (b + j)) :: st)) : vV p l e R s m args below meth c nL z0 D cells slots Q n ad g pc L (.int x :: .ref (ad k) :: st) := v_aald (t0 := 1) X d hg rfl hx hj hN (rf_at hj) kk
theorem v_alenI (X : vCx p s m args c cc own nL z0 D cy) {k N : Nat} {f : Nat → Int32} (d : decode cc pc = .ok (.arraylength, 1)) (hg : vAt n g k (iA cy N f)) (kk : vV p l e R s m args below meth c nL z0 D cells slots Q n ad g (pc + 1) L (.int (nI N) :: st)) : vV p l e R s m args below meth c nL z0 D cells slots Q n ad g pc L (.ref (ad k) :: st) := fun H locs ls hS hP hD hl =>
  va_alen X.1 X.2.1 X.2.2.2.2.2.1 hP k 0 (wl_at hg) rfl rfl d (kk H locs ls hS hP hD hl)
theorem v_alenA (X : vCx p s m args c cc own nL z0 D cy) {k N : Nat} {f : Nat → Option Nat} (d : decode cc pc = .ok (.arraylength, 1)) (hg : vAt n g k (aA cy N f)) (kk : vV p l e R s m args below meth c nL z0 D cells slots Q n ad g (pc + 1) L (.int (nI N) :: st)) : vV p l e R s m args below meth c nL z0 D cells slots Q n ad g pc L (.ref (ad k) :: st) := fun H locs ls hS hP hD hl =>
  va_alen X.1 X.2.1 X.2.2.2.2.2.1 hP k 4 (wl_at hg) rfl rfl d (kk H locs ls hS hP hD hl)
theorem v_alenL (X : vCx p s m args c cc own nL z0 D cy) {k N : Nat} {f : Nat → Option Nat} (d : decode cc pc = .ok (.arraylength, 1)) (hg : vAt n g k (hA cy N f)) (kk : vV p l e R s m args below meth c nL z0 D cells slots Q n ad g (pc + 1) L (.int (nI N) :: st)) : vV p l e R s m args below meth c nL z0 D cells slots Q n ad g pc L (.ref (ad k) :: st) := fun H locs ls hS hP hD hl =>
  va_alen X.1 X.2.1 X.2.2.2.2.2.1 hP k 1 (wl_at hg) rfl rfl d (kk H locs ls hS hP hD hl)
/-! new int[N][M] -/
theorem wl_app {N : Nat} {r : Nat → Nat} {e : Nat → va_E} : wl n ad g ++ (List.range N).map (fun i => (r i, e i)) = wl (n + N) (fun k => if k < n then ad k else r (k - n)) (fun k => if k < n then g k else e (k - n)) := by
  unfold wl
  rw [List.range_add, List.map_append, List.map_map]
  congr 1
  · apply List.map_congr_left
    intro k hk
    have := List.mem_range.mp hk
    show _ = (if k < n then ad k else r (k - n), if k < n then g k else e (k - n))
    rw [if_pos this, if_pos this]
  · apply List.map_congr_left
    intro k hk
    show (r k, e k) = (if n + k < n then _ else _, if n + k < n then _ else _)
    rw [if_neg (by omega), if_neg (by omega), show n + k - n = k by omega]
def mnG (cy : Nat → ClassId) (ad : Nat → Nat) (n N M : Nat) (g : Nat → va_E) : Nat → va_E := fun k => if k < n then g k else if k = n then aA cy N (rf ad (n + 1) N) else iA cy M (fun _ => 0)
theorem v_multi (X : vCx p s m args c cc own nL z0 D cy) {x y : Int32} {N M index : Nat} (hx : x = nI N) (hy : y = nI M) (hN : N < 1000) (hM : M < 1000) (wk : Cond.classLink own index "[[I" ∈ UW) (hR : cells + (1 + N) ≤ R.cells ∧ slots + (N + N * M) ≤ R.slots) (d : decode cc pc = .ok (.multianewarray index 2, 4))
    (kk : ∀ ad' : Nat → Nat, (∀ j, j < n → ad' j = ad j) → vV p l e R s m args below meth c nL z0 D (cells + (1 + N)) (slots + (N + N * M)) Q (n + 1 + N) ad' (mnG cy ad' n N M g) (pc + 4) L (.ref (ad' n) :: st)) : vV p l e R s m args below meth c nL z0 D cells slots Q n ad g pc L (.int y :: .int x :: st) := fun H locs ls hS hP hD hl => by
  subst hx
  subst hy
  have e0 : va_pl [] (fun _ => (Sum.inr (0, []) : va_E)) = [] := rfl
  have cN : (nI N).toNatClampNeg = N := nI_clamp (by omega)
  have cM : (nI M).toNatClampNeg = M := nI_clamp (by omega)
  refine va_mna (X := wl n ad g) (L := []) (f := fun _ => .inr (0, [])) (ty := .int) (z := (M, .inl (fun _ => 0))) X.1 X.2.1 X.2.2.2.1 (by rw [nm_AA]; exact X.2.2.2.2.1 _ wk) X.oA (X.2.2.2.2.1 _ wa_int) (by rw [nm_A]; exact cy_int X) X.2.2.2.2.2.1 (by rw [e0, List.append_nil]; exact hP) (by rw [e0, List.append_nil]; exact hD) hS (fun q hq => Nat.le_trans X.2.2.2.2.2.2.1 hq) (Int32.not_lt.mpr (nI_pos' (by omega))) (Int32.not_lt.mpr (nI_pos' (by omega))) cN cM (by omega) (by show M * 4 ≤ _; omega) (by omega) rfl rfl hR.1 hR.2 (fun c0 => ?_) d ?_
  · show ({ cls := c0, slots := Array.replicate M (.int 0), vm := .none } : Cell) = _
    rw [arrV_new]
    rfl
  · intro q r cA H1 hinj hnl hK1 hP1 hD1 hS1
    have hA : cA = cy 4 := by
      have h1 := (hK1.2 5 (cA, .array .int) rfl).2
      have h2 := (X.2.2.2.2.2.1.2 4 (cy 4, .array .int) rfl).2
      exact Option.some.inj (h1.symm.trans h2)
    subst hA
    have eR : va_pl ([] ++ (List.range N).map r) (vr_up (fun _ => (Sum.inr (0, []) : va_E)) ((List.range N).map r) (.inl (cy 0, (M, .inl (fun _ => 0))))) = (List.range N).map (fun i => (r i, iA cy M (fun _ => 0))) := by
      unfold va_pl
      rw [List.nil_append, List.map_map]
      apply List.map_congr_left
      intro i hi
      show (r i, vr_up _ _ _ (r i)) = _
      rw [vr_up_in (List.mem_map.mpr ⟨i, hi, rfl⟩)]
      rfl
    rw [eR, wl_push, wl_app] at hP1 hD1
    generalize hA2 : (fun k => if k < n + 1 then va_up ad n q k else r (k - (n + 1))) = ad2 at hP1 hD1
    have h0 : ∀ j, j < n → ad2 j = ad j := fun j hj => by
      rw [← hA2]
      show (if j < n + 1 then va_up ad n q j else r (j - (n + 1))) = ad j
      rw [if_pos (by omega), va_up_ne _ _ (by omega)]
    have en : ad2 n = q := by
      rw [← hA2]
      show (if n < n + 1 then va_up ad n q n else _) = q
      rw [if_pos (by omega), va_up_self]
    have ef : rf ad2 (n + 1) N = (fun i => if i < N then some (r i) else none) := by
      funext i
      unfold rf
      rw [← hA2]
      show (if i < N then some (if n + 1 + i < n + 1 then _ else _) else none) = _
      rw [if_neg (show ¬ n + 1 + i < n + 1 by omega), show n + 1 + i - (n + 1) = i by omega]
    have eg : mnG cy ad2 n N M g = (fun k => if k < n + 1 then va_up g n (.inl (cy 4, N, .inr (.inr (.inr (.inr (fun i => if i < N then some (r i) else none)))))) k else iA cy M (fun _ => 0)) := by
      funext k
      unfold mnG
      rw [ef]
      by_cases a1 : k < n
      · rw [if_pos a1, if_pos (by omega), va_up_ne _ _ (by omega)]
      · by_cases a2 : k = n
        · subst a2
          rw [if_neg a1, if_pos rfl, if_pos (by omega), va_up_self]
          rfl
        · rw [if_neg a1, if_neg a2, if_neg (by omega)]
    have k1 := kk ad2 h0 H1 locs ls hS1
    rw [en, eg] at k1
    have k2 := k1 hP1 hD1 hl
    rw [show cells + (1 + N) = cells + 1 + N by omega, show slots + (N + N * M) = slots + N + N * M by omega] at k2
    exact k2
end MKA
