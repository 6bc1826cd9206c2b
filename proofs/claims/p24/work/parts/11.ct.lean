/-! contracts by worlds -/
abbrev CtP : Type := Option Value → Nat → (Nat → Nat) → (Nat → va_E) → Prop
def wd (z0 : Nat) (D : va_G) (cy : Nat → ClassId) (n : Nat) (ad : Nat → Nat) (g : Nat → va_E) (U : State) : Prop := z0 ≤ U.heap.size ∧ va_P D vwCl (wl n ad g) U.heap ∧ va_D (fun q => z0 ≤ q) (wl n ad g) ∧ va_K D vwCl (tysV cy) U ∧ xF z0 cy U
def QcR (z0 : Nat) (D : va_G) (P : CtP) : Array Value → State → Outcome → State → Prop := fun _ st o t => (∃ (r : Option Value) (n' : Nat) (ad' : Nat → Nat) (g' : Nat → va_E), o = .returned r ∧ P r n' ad' g' ∧ va_P D vwCl (wl n' ad' g') t.heap ∧ va_D (fun q => z0 ≤ q) (wl n' ad' g')) ∧ va_F (fun q => z0 ≤ q) st t
def CtG (l : Launch) (y : MethodName) (cc : ByteArray) (maxL : Nat) (ret : Option FieldType) (rm : Room) (z0 : Nat) (D : va_G) (cy : Nat → ClassId) (n : Nat) (ad : Nat → Nat) (g : Nat → va_E) (av : List Value) (P : CtP) (mc ms : Nat) : Prop :=
  Met l y (.code y cc maxL ret :: UW) rm (va_Pc av (wd z0 D cy n ad g)) (QcR z0 D P) mc ms (fun q => z0 ≤ q)
/-- the answer and the world behind it, told outright -/
abbrev isR (r : Option Value) (n : Nat) (ad : Nat → Nat) (g : Nat → va_E) : CtP := fun r' n' ad' g' => r' = r ∧ n' = n ∧ ad' = ad ∧ g' = g
abbrev Ct (l : Launch) (y : MethodName) (cc : ByteArray) (maxL : Nat) (ret : Option FieldType) (rm : Room) (z0 : Nat) (D : va_G) (cy : Nat → ClassId) (n : Nat) (ad : Nat → Nat) (g : Nat → va_E) (av : List Value) (r : Option Value) (g' : Nat → va_E) : Prop :=
  CtG l y cc maxL ret rm z0 D cy n ad g av (isR r n ad g') rm.cells rm.slots
theorem UW_good {y : MethodName} {cc : ByteArray} {maxL : Nat} {ret : Option FieldType} (h : Cond.code y cc maxL ret ∈ UW) : GoodIn UW (.code y cc maxL ret :: UW) := by
  intro w hw
  rcases List.mem_cons.mp hw with rfl | hw
  · exact ⟨h, good_of_word (List.mem_filter.mp h).2⟩
  · exact ⟨hw, good_of_word (List.mem_filter.mp hw).2⟩
theorem UW_goodL {ws : List Cond} (h : ∀ w ∈ ws, w ∈ UW) : GoodIn UW ws := fun w hw => ⟨h w hw, good_of_word (List.mem_filter.mp (h w hw)).2⟩
theorem wd.blind {z0 : Nat} {D : va_G} {cy : Nat → ClassId} {n : Nat} {ad : Nat → Nat} {g : Nat → va_E} {av : List Value} : FrameBlind (va_Pc av (wd z0 D cy n ad g)) := fun a U gg mk q => ⟨q.1, q.2.1, q.2.2.1, q.2.2.2.1, va_K.moved (u := U) (U := U.calling gg mk a) (Vm.Alike.refl U.vm) q.2.2.2.2.1, q.2.2.2.2.2.calling⟩
section CV
variable {p : Program} {l : Launch} {e : Env} {R : Room} {s : State} {m : MethodId} {args : Array Value} {below : List Frame} {meth : Method} {c : Code} {cells slots : Nat} {Q : State → Prop}
variable {cc : ByteArray} {own : String} {nL z0 n pc : Nat} {D : va_G} {cy : Nat → ClassId} {ad : Nat → Nat} {g : Nat → va_E} {L : List (Option Value)} {st : List Value}
variable {y : MethodName} {bytes : ByteArray} {maxL mc ms : Nat} {ret : Option FieldType} {rm : Room} {P : CtP}
theorem vCx.pre {av : List Value} {H : Heap} {locs : List Loc} (X : vCx p s m args c cc own nL z0 D cy) (hS : va_S (fun q => z0 ≤ q) s.heap H locs) (hP : va_P D vwCl (wl n ad g) H) (hD : va_D (fun q => z0 ≤ q) (wl n ad g)) : ∀ U : State, U.heap = H → s.WarmedH U.vm → va_Pc av (wd z0 D cy n ad g) av.toArray U := by
  intro U hU hW
  refine ⟨rfl, by rw [hU]; exact Nat.le_trans X.2.2.2.2.2.2.1 hS.1, by rw [hU]; exact hP, hD, va_K.moved hW.alike X.2.2.2.2.2.1, xF.next hW (fun a ha hna => ?_) X.2.2.2.2.2.2.2⟩
  rw [hU]
  exact hS.2.1 a ha hna
theorem ct_of {av : List Value} (hy : plainName y.cls = true) (k : Nat) (L : List (Option Value)) (hlen : (lg_sl av).length ≤ maxL) (hL : argsL av ++ List.replicate k none = L)
    (body : ∀ (p : Program) (e : Env) (s : State) (m : MethodId) (below : List Frame) (meth : Method) (c : Code), vCx p s m av.toArray c bytes y.cls maxL z0 D cy → meth.sig.returnType = ret → meth.locks = false → meth.name = y.name →
      vV p l e rm s m av.toArray below meth c maxL z0 D 0 0 (MQ below (QcR z0 D P) av.toArray s mc ms (fun q => z0 ≤ q)) n ad g 0 L []) : CtG l y bytes maxL ret rm z0 D cy n ad g av P mc ms := by
  refine Met.ofW (cc := bytes) (maxL := maxL) (ret := ret) hy rfl ?_
  intro p e s m args below meth c s₁ B hml hv
  obtain ⟨rfl, hz, hP, hD, hK, hF⟩ := hv
  have hts := atoms_spec (ws := .code y bytes maxL ret :: UW) B.pre
  have hown : s.vm.findClass y.cls = some m.cls := findClass_of_methodNamed B.named
  have hl := hasL_entry hlen hL
  rw [lg_entry_eq]
  exact body p e s m below meth c ⟨B.exec, B.bytes, hml, hown, fun w h => hts w (List.mem_cons_of_mem _ h), hK, hz, hF⟩ B.returns B.notSynchronized (name_of_methodNamed B.named B.method).1 s.heap [] _ va_S.rf hP hD hl
theorem v_iret (X : vCx p s m args c cc own nL z0 D cy) {x : Int32} (hr : meth.sig.returnType = some .int) (hlk : meth.locks = false) (d : decode cc pc = .ok (.ireturn, 1)) (hP : P (some (.int x)) n ad g) : vV p l e R s m args below meth c nL z0 D cells slots (MQ below (QcR z0 D P) args s cells slots (fun q => z0 ≤ q)) n ad g pc L [.int x] := fun H locs ls hS hPP hD hl =>
  W.iret X.1 X.2.1 hr (fun t ht hW => ⟨⟨_, n, ad, g, rfl, hP, by rw [ht]; exact hPP, hD⟩, hS.F ht⟩) hS.2.2 d hlk
theorem v_zret (X : vCx p s m args c cc own nL z0 D cy) {x : Int32} (hr : meth.sig.returnType = some .boolean) (hlk : meth.locks = false) (d : decode cc pc = .ok (.ireturn, 1)) (hx : narrow .boolean (.int x) = .int x) (hP : P (some (.int x)) n ad g) : vV p l e R s m args below meth c nL z0 D cells slots (MQ below (QcR z0 D P) args s cells slots (fun q => z0 ≤ q)) n ad g pc L [.int x] := fun H locs ls hS hPP hD hl =>
  W.zret X.1 X.2.1 hr hx (fun t ht hW => ⟨⟨_, n, ad, g, rfl, hP, by rw [ht]; exact hPP, hD⟩, hS.F ht⟩) hS.2.2 d hlk
theorem v_lret (X : vCx p s m args c cc own nL z0 D cy) {x : Int64} (hr : meth.sig.returnType = some .long) (hlk : meth.locks = false) (d : decode cc pc = .ok (.lreturn, 1)) (hP : P (some (.long x)) n ad g) : vV p l e R s m args below meth c nL z0 D cells slots (MQ below (QcR z0 D P) args s cells slots (fun q => z0 ≤ q)) n ad g pc L [.long x] := fun H locs ls hS hPP hD hl =>
  W.lret X.1 X.2.1 hr (fun t ht hW => ⟨⟨_, n, ad, g, rfl, hP, by rw [ht]; exact hPP, hD⟩, hS.F ht⟩) hS.2.2 d hlk
theorem v_dret (X : vCx p s m args c cc own nL z0 D cy) {x : UInt64} (hr : meth.sig.returnType = some .double) (hlk : meth.locks = false) (d : decode cc pc = .ok (.dreturn, 1)) (hP : P (some (.double x)) n ad g) : vV p l e R s m args below meth c nL z0 D cells slots (MQ below (QcR z0 D P) args s cells slots (fun q => z0 ≤ q)) n ad g pc L [.double x] := fun H locs ls hS hPP hD hl =>
  W.dret X.1 X.2.1 hr (fun t ht hW => ⟨⟨_, n, ad, g, rfl, hP, by rw [ht]; exact hPP, hD⟩, hS.F ht⟩) hS.2.2 d hlk
theorem v_vret (X : vCx p s m args c cc own nL z0 D cy) (hr : meth.sig.returnType = none) (hlk : meth.locks = false) (d : decode cc pc = .ok (.return_, 1)) (hP : P none n ad g) : vV p l e R s m args below meth c nL z0 D cells slots (MQ below (QcR z0 D P) args s cells slots (fun q => z0 ≤ q)) n ad g pc L [] := fun H locs ls hS hPP hD hl =>
  W.vret X.1 X.2.1 hr (fun t ht hW => ⟨⟨_, n, ad, g, rfl, hP, by rw [ht]; exact hPP, hD⟩, hS.F ht⟩) hS.2.2 d hlk
theorem v_aret (X : vCx p s m args c cc own nL z0 D cy) {a : Nat} {rt : FieldType} (hr : meth.sig.returnType = some rt) (hrt : (∃ n, rt = .object n) ∨ ∃ t, rt = .array t) (hlk : meth.locks = false) (d : decode cc pc = .ok (.areturn, 1)) (hP : P (some (.ref a)) n ad g) : vV p l e R s m args below meth c nL z0 D cells slots (MQ below (QcR z0 D P) args s cells slots (fun q => z0 ≤ q)) n ad g pc L [.ref a] := fun H locs ls hS hPP hD hl =>
  W.aret X.1 X.2.1 hr hrt (Or.inr ⟨a, rfl⟩) (fun t ht hW => ⟨⟨_, n, ad, g, rfl, hP, by rw [ht]; exact hPP, hD⟩, hS.F ht⟩) hS.2.2 d hlk
/-- behind a call -/
theorem v_ofRun {H : Heap} {locs : List Loc} {ls : Array Slot} {st0 : List Value} {a : Array Value} (hr : va_Run p l e R s m args below meth c H locs cells slots mc ms (F0 m pc ls st0) st (QcR z0 D P a) (fun q => z0 ≤ q)) (hS : va_S (fun q => z0 ≤ q) s.heap H locs) (hl : hasL ls nL L)
    (kk : ∀ (r : Option Value) (n' : Nat) (ad' : Nat → Nat) (g' : Nat → va_E), P r n' ad' g' → vV p l e R s m args below meth c nL z0 D (cells + mc) (slots + ms) Q n' ad' g' (pc + 3) L (r.toList ++ st)) : W p l e R s m args below meth c H locs cells slots Q (F0 m pc ls st0) := by
  intro T hT X
  obtain ⟨v, st₀, t, T', LL, h0, X', hL, e1, e2, ⟨⟨r, n', ad', g', hv, hp, hP1, hD1⟩, hz, hk⟩, hst⟩ := hr T hT X
  cases hv
  rw [h0] at hz hk
  rw [← e1] at hP1
  obtain ⟨t2, a1, b1⟩ := kk v n' ad' g' hp T'.heap (locs ++ LL) ls
    ⟨Nat.le_trans hS.1 (by rw [e1]; exact hz), fun q h1 h2 => by rw [e1, hk q (Nat.lt_of_lt_of_le h1 hS.1) h2]; exact hS.2.1 q h1 h2, fun q hq => by
      rcases List.mem_append.mp hq with h | h
      · exact hS.2.2 q h
      · exact hL q h⟩ hP1 hD1 hl T' rfl X'
  exact ⟨t2, hst t2 a1, b1⟩
theorem v_callV (X : vCx p s m args c cc own nL z0 D cy) {C : String} {T : u_T} {idx k ci N : Nat} {fs As st0 : List Value} (wm : Cond.methodLink own idx y ∈ UW) (wi : Cond.instanceMethod y ∈ UW) (wsl : Cond.selects C y y ∈ UW) (wz : Cond.initialized C ∈ UW) (wc : Cond.code y bytes maxL ret ∈ UW)
    (hd : y.cls = C ∧ y.cls ≠ "java/lang/invoke/MethodHandle" ∧ y.cls ≠ "java/lang/invoke/VarHandle" ∧ (parseMethodDescriptor y.desc).map (fun d => d.parameters.length) = some As.length) (hci : vwCl[ci]? = some (C, T, N))
    (d : decode cc pc = .ok (.invokevirtual idx, 3)) (hM : CtG l y bytes maxL ret rm z0 D cy n ad g (.ref (ad k) :: As) P mc ms) (hrecv : vAt n g k (.inr (ci, fs))) (hs : st0 = As.reverse ++ .ref (ad k) :: st) (hst : (st.map fun v => v.category).sum ≤ 8)
    (hR : rm.cells = mc ∧ rm.slots = ms ∧ rm.frames + 1 ≤ R.frames ∧ 8 + (maxL + 11) + rm.locals ≤ R.locals ∧ cells + mc ≤ R.cells ∧ slots + ms ≤ R.slots)
    (kk : ∀ (r : Option Value) (n' : Nat) (ad' : Nat → Nat) (g' : Nat → va_E), P r n' ad' g' → vV p l e R s m args below meth c nL z0 D (cells + mc) (slots + ms) Q n' ad' g' (pc + 3) L (r.toList ++ st)) : vV p l e R s m args below meth c nL z0 D cells slots Q n ad g pc L st0 := fun H locs ls hS hPP hD hl =>
  v_ofRun (va_runV (As := As) (rest := st) ⟨X.1, X.2.1, X.2.2.1, X.2.2.2.1, X.2.2.2.2.1⟩ hM (cwV As.length X.2.2.2.2.1 (UW_goodL (fun w hw => by
      rcases List.mem_append.mp hw with h | h
      · rcases List.mem_cons.mp h with rfl | h
        · exact wm
        rcases List.mem_cons.mp h with rfl | h
        · exact wi
        rcases List.mem_cons.mp h with rfl | h
        · exact wsl
        rcases List.mem_cons.mp h with rfl | h
        · exact wz
        cases h
      · rcases List.mem_cons.mp h with rfl | h
        · exact wc
        · exact h)) rfl hR.1 hR.2.1 hd ⟨hR.2.2.1, hR.2.2.2.1⟩) ⟨wd.blind, va_recv X.2.2.2.2.2.1 hPP hci (wl_at hrecv), X.pre hS hPP hD⟩ rfl rfl hl.1 hs (lv_room hst) d ⟨hR.2.2.2.2.1, hR.2.2.2.2.2⟩) hS hl kk
theorem v_callS (X : vCx p s m args c cc own nL z0 D cy) {idx : Nat} {As st0 : List Value} (wm : Cond.methodLink own idx y ∈ UW) (wt : Cond.static y ∈ UW) (wz : Cond.initialized y.cls ∈ UW) (wc : Cond.code y bytes maxL ret ∈ UW)
    (hd : y.cls ≠ "java/lang/invoke/MethodHandle" ∧ y.cls ≠ "java/lang/invoke/VarHandle" ∧ (parseMethodDescriptor y.desc).map (fun d => d.parameters.length) = some As.length)
    (d : decode cc pc = .ok (.invokestatic idx, 3)) (hM : CtG l y bytes maxL ret rm z0 D cy n ad g As P mc ms) (hs : st0 = As.reverse ++ st) (hst : (st.map fun v => v.category).sum ≤ 8)
    (hR : rm.cells = mc ∧ rm.slots = ms ∧ rm.frames + 1 ≤ R.frames ∧ 8 + (maxL + 11) + rm.locals ≤ R.locals ∧ cells + mc ≤ R.cells ∧ slots + ms ≤ R.slots)
    (kk : ∀ (r : Option Value) (n' : Nat) (ad' : Nat → Nat) (g' : Nat → va_E), P r n' ad' g' → vV p l e R s m args below meth c nL z0 D (cells + mc) (slots + ms) Q n' ad' g' (pc + 3) L (r.toList ++ st)) : vV p l e R s m args below meth c nL z0 D cells slots Q n ad g pc L st0 := fun H locs ls hS hPP hD hl =>
  v_ofRun (va_runS (As := As) (rest := st) ⟨X.1, X.2.1, X.2.2.1, X.2.2.2.1, X.2.2.2.2.1⟩ hM ⟨callB_of As.length X.2.2.2.2.1 (UW_good wc) rfl hR.1 hR.2.1 (X.2.2.2.2.1 _ wz) (X.2.2.2.2.1 _ wm) hd ⟨hR.2.2.1, hR.2.2.2.1⟩, X.2.2.2.2.1 _ wt⟩ ⟨wd.blind, X.pre hS hPP hD⟩ rfl rfl hl.1 hs (lv_room hst) d ⟨hR.2.2.2.2.1, hR.2.2.2.2.2⟩) hS hl kk
theorem v_callI (X : vCx p s m args c cc own nL z0 D cy) {idx k : Nat} {As st0 : List Value} (wm : Cond.methodLink own idx y ∈ UW) (wi : Cond.instanceMethod y ∈ UW) (wz : Cond.initialized y.cls ∈ UW) (wc : Cond.code y bytes maxL none ∈ UW) (hy1 : y.name = "<init>")
    (hd : y.cls ≠ "java/lang/invoke/MethodHandle" ∧ y.cls ≠ "java/lang/invoke/VarHandle" ∧ (parseMethodDescriptor y.desc).map (fun d => d.parameters.length) = some As.length)
    (d : decode cc pc = .ok (.invokespecial idx, 3)) (hM : CtG l y bytes maxL none rm z0 D cy n ad g (.ref (ad k) :: As) P mc ms) (hs : st0 = As.reverse ++ .ref (ad k) :: st) (hst : (st.map fun v => v.category).sum ≤ 8)
    (hR : rm.cells = mc ∧ rm.slots = ms ∧ rm.frames + 1 ≤ R.frames ∧ 8 + (maxL + 11) + rm.locals ≤ R.locals ∧ cells + mc ≤ R.cells ∧ slots + ms ≤ R.slots)
    (kk : ∀ (r : Option Value) (n' : Nat) (ad' : Nat → Nat) (g' : Nat → va_E), P r n' ad' g' → vV p l e R s m args below meth c nL z0 D (cells + mc) (slots + ms) Q n' ad' g' (pc + 3) L (r.toList ++ st)) : vV p l e R s m args below meth c nL z0 D cells slots Q n ad g pc L st0 := fun H locs ls hS hPP hD hl =>
  v_ofRun (va_runI (As := As) (rest := st) ⟨X.1, X.2.1, X.2.2.1, X.2.2.2.1, X.2.2.2.2.1⟩ hM (cwI As.length X.2.2.2.2.1 (UW_good wc) rfl hR.1 hR.2.1 (X.2.2.2.2.1 _ wz) (X.2.2.2.2.1 _ wm) (X.2.2.2.2.1 _ wi) hy1 hd ⟨hR.2.2.1, hR.2.2.2.1⟩) ⟨wd.blind, X.pre hS hPP hD⟩ rfl rfl hl.1 hs (lv_room hst) d ⟨hR.2.2.2.2.1, hR.2.2.2.2.2⟩) hS hl kk
theorem v_callIN (X : vCx p s m args c cc own nL z0 D cy) {idx k : Nat} {host : String} {As st0 : List Value} (wm : va_Nw (.methodLinkNest own idx y host) s) (wi : Cond.instanceMethod y ∈ UW) (wz : Cond.initialized y.cls ∈ UW) (wc : Cond.code y bytes maxL none ∈ UW) (hy1 : y.name = "<init>")
    (hd : y.cls ≠ "java/lang/invoke/MethodHandle" ∧ y.cls ≠ "java/lang/invoke/VarHandle" ∧ (parseMethodDescriptor y.desc).map (fun d => d.parameters.length) = some As.length)
    (d : decode cc pc = .ok (.invokespecial idx, 3)) (hM : CtG l y bytes maxL none rm z0 D cy n ad g (.ref (ad k) :: As) P mc ms) (hs : st0 = As.reverse ++ .ref (ad k) :: st) (hst : (st.map fun v => v.category).sum ≤ 8)
    (hR : rm.cells = mc ∧ rm.slots = ms ∧ rm.frames + 1 ≤ R.frames ∧ 8 + (maxL + 11) + rm.locals ≤ R.locals ∧ cells + mc ≤ R.cells ∧ slots + ms ≤ R.slots)
    (kk : ∀ (r : Option Value) (n' : Nat) (ad' : Nat → Nat) (g' : Nat → va_E), P r n' ad' g' → vV p l e R s m args below meth c nL z0 D (cells + mc) (slots + ms) Q n' ad' g' (pc + 3) L (r.toList ++ st)) : vV p l e R s m args below meth c nL z0 D cells slots Q n ad g pc L st0 := fun H locs ls hS hPP hD hl =>
  v_ofRun (va_runIN (As := As) (rest := st) ⟨X.1, X.2.1, X.2.2.1, X.2.2.2.1, X.2.2.2.2.1⟩ hM ⟨va_cnB As.length X.2.2.2.2.1 (UW_good wc) rfl hR.1 hR.2.1 wm (X.2.2.2.2.1 _ wz) hd ⟨hR.2.2.1, hR.2.2.2.1⟩, hy1, X.2.2.2.2.1 _ wi⟩ ⟨wd.blind, X.pre hS hPP hD⟩ rfl rfl hl.1 hs (lv_room hst) d ⟨hR.2.2.2.2.1, hR.2.2.2.2.2⟩) hS hl kk
end CV
