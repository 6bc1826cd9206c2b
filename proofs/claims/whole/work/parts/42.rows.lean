/-! rows: arrays of int arrays, clone, arraycopy -/
section MKA
variable {p : Program} {l : Launch} {e : Env} {R : Room} {s : State} {m : MethodId} {args : Array Value} {below : List Frame} {meth : Method} {c : Code} {cells slots : Nat} {Q : State → Prop}
variable {cc : ByteArray} {own : String} {nL z0 n pc : Nat} {D : va_G} {cy : Nat → ClassId} {ad : Nat → Nat} {g : Nat → va_E} {L : List (Option Value)} {st : List Value}
def aA (cy : Nat → ClassId) (N : Nat) (f : Nat → Option Nat) : va_E := .inl (cy 4, N, .inr (.inr (.inr (.inr f))))
theorem cy_int (X : vCx p s m args c cc own nL z0 D cy) : s.vm.findClass "[I" = some (cy 0) := va_nm_int (X.2.2.2.2.2.1.2 0 (cy 0, .int) rfl).2
theorem nm_A : (FieldType.array .int).toString = "[I" := by decide +kernel
theorem v_newA (X : vCx p s m args c cc own nL z0 D cy) {x : Int32} {N index : Nat} (hx : x = nI N) (hN : N < 1000) (wk : Cond.classLink own index "[I" ∈ UW) (hO : (Cond.arrayOver (.array .int)).before #[] s = true) (hR : cells + 1 ≤ R.cells ∧ slots + N ≤ R.slots) (d : decode cc pc = .ok (.anewarray index, 3))
    (kk : ∀ ad' : Nat → Nat, (∀ j, j < n → ad' j = ad j) → vV p l e R s m args below meth c nL z0 D (cells + 1) (slots + N) Q (n + 1) ad' (va_up g n (aA cy N (fun _ => none))) (pc + 3) L (.ref (ad' n) :: st)) : vV p l e R s m args below meth c nL z0 D cells slots Q n ad g pc L (.int x :: st) := fun H locs ls hS hP hD hl => by
  subst hx
  have hc : (nI N).toNatClampNeg = N := nI_clamp (by omega)
  refine W.anewA (t := .int) X.1 X.2.1 X.2.2.2.1 (by rw [nm_A]; exact X.2.2.2.2.1 _ wk) (over_moved (Vm.Alike.refl s.vm) hO) rfl d rfl (Int32.not_lt.mpr (nI_pos' (by omega))) (by rw [hc]; omega) hR.1 (by rw [hc]; exact hR.2) (fun cA kA comp f1 f2 f3 f4 => ?_)
  rw [hc]
  have hA : cA = cy 4 := by
    have h2 := (X.2.2.2.2.2.1.2 4 (cy 4, .array .int) rfl).2
    exact Option.some.inj (f1.symm.trans h2)
  subst hA
  generalize hH1 : H.push ({ cls := cy 4, slots := Array.replicate N .null, vm := .none } : Cell) = H1
  have z1 : H1.size = H.size + 1 := by rw [← hH1, Array.size_push]
  have e1 : H1[H.size]? = some (arrV (cy 4) N (fun _ => .null)) := by rw [← hH1, Array.getElem?_push_size, ← arrV_new]
  have o1 : ∀ q : Nat, q < H.size → H1[q]? = H[q]? := fun q hq => by rw [← hH1, Array.getElem?_push, if_neg (Nat.ne_of_lt hq)]
  have hk : ∀ (k : Nat) (x : Nat × va_E), (wl n ad g)[k]? = some x → H1[x.1]? = H[x.1]? := fun k x hx => o1 x.1 ((hP k x hx).lt)
  have k1 := kk (va_up ad n H.size) (fun j hj => va_up_ne _ _ (by omega)) H1 locs ls ⟨Nat.le_trans hS.1 (by omega), fun x h1 h2 => (o1 x (Nat.lt_of_lt_of_le h1 hS.1)).trans (hS.2.1 x h1 h2), hS.2.2⟩
    (wl_push ▸ (hP.kept hk).app (fun k x hx => by
      have hz : k < 1 := (List.getElem?_eq_some_iff.mp hx).1
      rw [show k = 0 by omega] at hx
      cases hx
      show H1[H.size]? = some (vp_cell _ _)
      rw [vp_cell_q]
      exact e1)) (wl_push ▸ hD.push hP rfl (Nat.le_trans X.2.2.2.2.2.2.1 hS.1)) hl
  rw [va_up_self] at k1
  exact k1
theorem v_aastA (X : vCx p s m args c cc own nL z0 D cy) {k kv N M j : Nat} {x : Int32} {f : Nat → Option Nat} {h : Nat → Int32} (hO : (Cond.arrayOver (.array .int)).before #[] s = true) (d : decode cc pc = .ok (.aastore, 1)) (hg : vAt n g k (aA cy N f)) (hv : vAt n g kv (iA cy M h)) (hx : x = nI j) (hj : j < N) (hN : N < 2 ^ 31)
    (kk : vV p l e R s m args below meth c nL z0 D cells slots Q n ad (va_up g k (aA cy N (va_up f j (some (ad kv))))) (pc + 1) L st) : vV p l e R s m args below meth c nL z0 D cells slots Q n ad g pc L (.ref (ad kv) :: .int x :: .ref (ad k) :: st) := fun H locs ls hS hP hD hl => by
  subst hx
  obtain ⟨comp, c4, kA, h1, -, h3, h4, h5⟩ := arrayOverA_spec hO
  rw [nm_A] at h1
  have e0 : comp = cy 0 := Option.some.inj (h1.symm.trans (cy_int X))
  have e4 : c4 = cy 4 := Option.some.inj (h5.symm.trans (X.2.2.2.2.2.1.2 4 (cy 4, .array .int) rfl).2)
  subst e0
  subst e4
  obtain ⟨kI, hkI, -⟩ := Vm.findClass_spec h1
  have hin := vp_in_nI hj hN
  have hlt : (nI j).toNatClampNeg < N := Nat.not_le.mp fun q => hin (Or.inr q)
  refine W.aast X.1 X.2.1 (hP k _ (wl_at hg)) (fun q h => by cases h) (fun h => by cases h) h3 h4 rfl hkI ⟨fun q => hin (Or.inl q), by show _ < (arrV _ _ _).slots.size; rw [arrV_size]; exact hlt⟩ (hP kv _ (wl_at hv)) (fun q h => by cases h) hkI (va_asg _ _) rfl rfl d fun H1 e z oq => ?_
  have eq : vp_cell (cy 4) (N, .inr (.inr (.inr (.inr (va_up f j (some (ad kv))))))) = (vp_cell (cy 4) (N, .inr (.inr (.inr (.inr f))))).setSlot (nI j).toNatClampNeg (.ref (ad kv)) := by
    rw [vp_cell_q, vp_cell_q, arrV_store, nI_clamp (by omega)]
    congr 2
    funext q
    by_cases hq : q = j
    · subst hq; simp [updV, va_up, va_rf]
    · simp [updV, va_up, hq]
  have k1 := kk H1 _ ls (hS.put (k := (nI j).toNatClampNeg) z oq (hD.2 k _ (wl_at hg))) (wl_set hg.1 ▸ hP.set hD (wl_at hg) (by
    show H1[ad k]? = some (vp_cell _ _)
    rw [e]
    exact congrArg some eq.symm) oq) (wl_set hg.1 ▸ hD.set (wl_at hg)) hl
  exact k1
theorem v_aaldA (X : vCx p s m args c cc own nL z0 D cy) {k N j a : Nat} {x : Int32} {f : Nat → Option Nat} (d : decode cc pc = .ok (.aaload, 1)) (hg : vAt n g k (aA cy N f)) (hx : x = nI j) (hj : j < N) (hN : N < 2 ^ 31) (hf : f j = some a) (kk : vV p l e R s m args below meth c nL z0 D cells slots Q n ad g (pc + 1) L (.ref a :: st)) : vV p l e R s m args below meth c nL z0 D cells slots Q n ad g pc L (.int x :: .ref (ad k) :: st) := fun H locs ls hS hP hD hl => by
  subst hx
  have hin := vp_in_nI hj hN
  refine W.aald (v := .ref a) (ty := .array .int) X.1 X.2.1 (hP k _ (wl_at hg)) ((X.2.2.2.2.2.1.2 4 (cy 4, .array .int) rfl).1 N (fun j => va_rf (f j))) rfl (fun q => by cases q) (by show ¬ (_ < 0 ∨ (arrV _ _ _).slots.size ≤ _); rw [arrV_size]; exact hin) (by
    show (arrV _ _ _).slots[_]? = _
    rw [nI_clamp (by omega), arrV_read _ _ hj, hf]
    rfl) rfl rfl d (kk H locs ls hS hP hD hl)
theorem v_alenI (X : vCx p s m args c cc own nL z0 D cy) {k N : Nat} {f : Nat → Int32} (d : decode cc pc = .ok (.arraylength, 1)) (hg : vAt n g k (iA cy N f)) (kk : vV p l e R s m args below meth c nL z0 D cells slots Q n ad g (pc + 1) L (.int (nI N) :: st)) : vV p l e R s m args below meth c nL z0 D cells slots Q n ad g pc L (.ref (ad k) :: st) := fun H locs ls hS hP hD hl =>
  va_alen X.1 X.2.1 X.2.2.2.2.2.1 hP k 0 (wl_at hg) rfl rfl d (kk H locs ls hS hP hD hl)
theorem v_alenA (X : vCx p s m args c cc own nL z0 D cy) {k N : Nat} {f : Nat → Option Nat} (d : decode cc pc = .ok (.arraylength, 1)) (hg : vAt n g k (aA cy N f)) (kk : vV p l e R s m args below meth c nL z0 D cells slots Q n ad g (pc + 1) L (.int (nI N) :: st)) : vV p l e R s m args below meth c nL z0 D cells slots Q n ad g pc L (.ref (ad k) :: st) := fun H locs ls hS hP hD hl =>
  va_alen X.1 X.2.1 X.2.2.2.2.2.1 hP k 4 (wl_at hg) rfl rfl d (kk H locs ls hS hP hD hl)
theorem v_castI (X : vCx p s m args c cc own nL z0 D cy) {k N index : Nat} {f : Nat → Int32} (wk : Cond.classLink own index "[I" ∈ UW) (d : decode cc pc = .ok (.checkcast index, 3)) (hg : vAt n g k (iA cy N f)) (kk : vV p l e R s m args below meth c nL z0 D cells slots Q n ad g (pc + 3) L (.ref (ad k) :: st)) : vV p l e R s m args below meth c nL z0 D cells slots Q n ad g pc L (.ref (ad k) :: st) := fun H locs ls hS hP hD hl =>
  va_castA X.1 X.2.1 X.2.2.2.1 (X.2.2.2.2.1 _ wk) hP k (wl_at hg) (cy_int X) d (kk H locs ls hS hP hD hl)
theorem v_clone (X : vCx p s m args c cc own nL z0 D cy) {k N index : Nat} {f : Nat → Int32} (wm : Cond.methodLink own index ({ cls := "[I", name := "clone", desc := "()Ljava/lang/Object;" } : MethodName) ∈ UW) (d : decode cc pc = .ok (.invokevirtual index, 3)) (hg : vAt n g k (iA cy N f)) (hst : (st.map fun v => v.category).sum ≤ 8) (hR : 1 ≤ R.frames ∧ 22 ≤ R.locals ∧ cells + 1 ≤ R.cells ∧ slots + N ≤ R.slots)
    (kk : ∀ ad' : Nat → Nat, (∀ j, j < n → ad' j = ad j) → vV p l e R s m args below meth c nL z0 D (cells + 1) (slots + N) Q (n + 1) ad' (va_up g n (iA cy N f)) (pc + 3) L (.ref (ad' n) :: st)) : vV p l e R s m args below meth c nL z0 D cells slots Q n ad g pc L (.ref (ad k) :: st) := fun H locs ls hS hP hD hl =>
  va_clone (x := (N, .inl f)) X.1 X.2.1 (X.2.2.1.trans hl.1.symm) X.2.2.2.1 (X.2.2.2.2.1 _ wm) (X.2.2.2.2.1 _ w9_780) (X.2.2.2.2.1 _ wv_Object_clone) (X.2.2.2.2.1 _ wi_Object_clone) (X.2.2.2.2.1 _ ws__I_clone) (X.2.2.2.2.2.2.2.2.1 _ List.mem_cons_self) X.2.2.2.2.2.1 hP hD hS (fun q hq => Nat.le_trans X.2.2.2.2.2.2.1 hq) k 0 (wl_at hg) rfl (cy_int X) (fun i v hv => by
      obtain ⟨hi, e⟩ := Array.getElem?_eq_some_iff.mp hv
      have hi' : i < N := by
        have := hi
        rw [show (vp_cell (cy 0) (N, .inl f)).slots.size = N from arrV_size _ _ _] at this
        exact this
      have h1 : (vp_cell (cy 0) (N, .inl f)).slots[i]? = some (.int (f i)) := arrV_read _ _ hi'
      rw [h1] at hv
      cases hv
      rfl) hR.1 (by omega) hR.2.2.1 hR.2.2.2 d (fun q H1 _ hP1 hD1 hS1 => by
    have k1 := kk (va_up ad n q) (fun j hj => va_up_ne _ _ (by omega)) H1 locs ls hS1 (wl_push ▸ hP1) (wl_push ▸ hD1) hl
    rw [va_up_self] at k1
    exact k1)
theorem v_copyi (X : vCx p s m args c cc own nL z0 D cy) {k0 k1 N0 N1 sp dp q index : Nat} {x y z : Int32} {f h : Nat → Int32} (wm : Cond.methodLink own index ({ cls := "java/lang/System", name := "arraycopy", desc := "(Ljava/lang/Object;ILjava/lang/Object;II)V" } : MethodName) ∈ UW) (d : decode cc pc = .ok (.invokestatic index, 3)) (h0 : vAt n g k0 (iA cy N0 f)) (h1 : vAt n g k1 (iA cy N1 h)) (hx : x = nI sp) (hy : y = nI dp) (hz : z = nI q) (hl0 : sp + q ≤ N0) (hl1 : dp + q ≤ N1) (hN : N0 < 1000 ∧ N1 < 1000) (hst : (st.map fun v => v.category).sum ≤ 8) (hR : 1 ≤ R.frames ∧ 26 ≤ R.locals)
    (kk : vV p l e R s m args below meth c nL z0 D cells slots Q n ad (va_up g k1 (iA cy N1 (va_cpy f h sp dp q))) (pc + 3) L st) : vV p l e R s m args below meth c nL z0 D cells slots Q n ad g pc L (.int z :: .int y :: .ref (ad k1) :: .int x :: .ref (ad k0) :: st) := fun H locs ls hS hP hD hl => by
  subst hx; subst hy; subst hz
  have c1 : (nI sp).toNatClampNeg = sp := nI_clamp (by omega)
  have c2 : (nI dp).toNatClampNeg = dp := nI_clamp (by omega)
  have c3 : (nI q).toNatClampNeg = q := nI_clamp (by omega)
  refine va_copyi X.1 X.2.1 (X.2.2.1.trans hl.1.symm) X.2.2.2.1 (X.2.2.2.2.1 _ wm) (X.2.2.2.2.1 _ wv_System_arraycopy) (X.2.2.2.2.1 _ wt_System_arraycopy) (X.2.2.2.2.1 _ wz_J10) X.2.2.2.2.2.1 hP hD hS k0 k1 0 0 (wl_at h0) (wl_at h1) rfl rfl rfl (nI_pos (by omega)) (nI_pos (by omega)) (nI_pos (by omega)) (by rw [c1, c3]; exact hl0) (by rw [c2, c3]; exact hl1) (fun i _ => rfl) hR.1 (by show _ + (7 + 11) ≤ _; omega) d (fun H1 locs1 hP1 hD1 hS1 => ?_)
  rw [c1, c2, c3, wl_set h1.1] at hP1 hD1
  exact kk H1 locs1 ls hS1 hP1 hD1 hl
end MKA
