/-! throwing, by worlds: the world stays -/
def XCx (z0 : Nat) (D : va_G) (n : Nat) (ad : Nat → Nat) (g : Nat → va_E) (E : String) : String → State → State → Prop := fun E' st t => E' = E ∧ va_P D vwCl (wl n ad g) t.heap ∧ va_D (fun q => z0 ≤ q) (wl n ad g) ∧ va_F (fun q => z0 ≤ q) st t
def QcF : Array Value → State → Outcome → State → Prop := fun _ _ _ _ => False
/-- a method that throws E with these arguments, at this world -/
def CtX (l : Launch) (y : MethodName) (cc : ByteArray) (maxL : Nat) (ret : Option FieldType) (f lo z0 : Nat) (D : va_G) (cy : Nat → ClassId) (n : Nat) (ad : Nat → Nat) (g : Nat → va_E) (av : List Value) (E : String) : Prop :=
  vx_Met l y (.code y cc maxL ret :: UW) { frames := f, cells := 1, slots := 6, locals := lo } (va_Pc av (wd z0 D cy n ad g)) QcF (XCx z0 D n ad g E) 1 6 (fun q => z0 ≤ q)
section VX
variable {p : Program} {l : Launch} {e : Env} {R : Room} {s : State} {m : MethodId} {args : Array Value} {below : List Frame} {meth : Method} {c : Code} {cells slots : Nat} {Q : State → Prop}
variable {cc : ByteArray} {own : String} {nL z0 n pc : Nat} {D : va_G} {cy : Nat → ClassId} {ad : Nat → Nat} {g : Nat → va_E} {L : List (Option Value)} {st : List Value}
variable {y : MethodName} {bytes : ByteArray} {maxL f lo : Nat} {ret : Option FieldType} {E : String}
/-- an exception of class E lies over the frame -/
def vT (p : Program) (l : Launch) (e : Env) (R : Room) (s : State) (m : MethodId) (args : Array Value) (below : List Frame) (meth : Method) (c : Code) (nL z0 : Nat) (D : va_G) (cells slots : Nat) (Q : State → Prop) (n : Nat) (ad : Nat → Nat) (g : Nat → va_E) (pc : Nat) (L : List (Option Value)) (st : List Value) (E : String) : Prop :=
  ∀ (H : Heap) (locs : List Loc) (ls : Array Slot) (ce : Cell) (q : Addr), va_S (fun q => z0 ≤ q) s.heap H locs → va_P D vwCl (wl n ad g) H → va_D (fun q => z0 ≤ q) (wl n ad g) → hasL ls nL L → H[q]? = some ce → ce.vm = .none → s.vm.findClass E = some ce.cls → vx_W p l e R s m args below meth c H locs cells slots Q (F0 m pc ls st) q
theorem ctx_of {av : List Value} (hy : plainName y.cls = true) (k : Nat) (L : List (Option Value)) (hlen : (lg_sl av).length ≤ maxL) (hL : argsL av ++ List.replicate k none = L)
    (body : ∀ (p : Program) (e : Env) (s : State) (m : MethodId) (below : List Frame) (meth : Method) (c : Code), vCx p s m av.toArray c bytes y.cls maxL z0 D cy → (∀ x ∈ c.exceptionTable.toList, False) → meth.locks = false →
      vV p l e { frames := f, cells := 1, slots := 6, locals := lo } s m av.toArray below meth c maxL z0 D 0 0 (vx_MQ below QcF (XCx z0 D n ad g E) av.toArray s 1 6 (fun q => z0 ≤ q)) n ad g 0 L []) : CtX l y bytes maxL ret f lo z0 D cy n ad g av E := by
  refine vx_ofW (cc := bytes) (maxL := maxL) (ret := ret) hy rfl ?_
  intro p e s m args below meth c s₁ B hml ht hv
  obtain ⟨rfl, hz, hP, hD, hK, hF⟩ := hv
  have hts := atoms_spec (ws := .code y bytes maxL ret :: UW) B.pre
  have hown : s.vm.findClass y.cls = some m.cls := findClass_of_methodNamed B.named
  have hl := hasL_entry hlen hL
  rw [lg_entry_eq]
  exact body p e s m below meth c ⟨B.exec, B.bytes, hml, hown, fun w h => hts w (List.mem_cons_of_mem _ h), hK, hz, hF⟩ ht B.notSynchronized s.heap [] _ va_S.rf hP hD hl
/-- not caught here -/
theorem v_out (X : vCx p s m args c cc own nL z0 D cy) (ht : ∀ x ∈ c.exceptionTable.toList, False) (hlk : meth.locks = false) (hc : cells ≤ 1) (hs : slots ≤ 6) : vT p l e R s m args below meth c nL z0 D cells slots (vx_MQ below QcF (XCx z0 D n ad g E) args s 1 6 (fun q => z0 ≤ q)) n ad g pc L st E := fun H locs ls ce q hS hP hD hl hce hcv hcl =>
  vx_out (fun x hx => (ht x hx).elim) hlk hce hcv hcl (fun t h1 _ => ⟨rfl, by rw [h1]; exact hP, hD, hS.F h1⟩) hS.2.2 hc hs
theorem vT.le {A : List (Option Value)} (hl : leL A L) (k : vT p l e R s m args below meth c nL z0 D cells slots Q n ad g pc A st E) : vT p l e R s m args below meth c nL z0 D cells slots Q n ad g pc L st E := fun H locs ls ce q hS hP hD h => k H locs ls ce q hS hP hD (h.le hl)
/-- behind a call that throws -/
theorem v_ofRunX {H : Heap} {locs : List Loc} {ls : Array Slot} {st0 : List Value} {a : Array Value} {mc ms : Nat} (hr : vx_Run p l e R s m args below meth c H locs cells slots mc ms (F0 m pc ls st0) st (QcF a) (XCx z0 D n ad g E) (fun q => z0 ≤ q)) (hS : va_S (fun q => z0 ≤ q) s.heap H locs) (hl : hasL ls nL L)
    (kx : vT p l e R s m args below meth c nL z0 D (cells + mc) (slots + ms) Q n ad g pc L st E) : W p l e R s m args below meth c H locs cells slots Q (F0 m pc ls st0) := by
  intro T hT X
  rcases hr T hT X with ⟨v, st₀, t, T', LL, h0, X', hL, e1, e2, hq, hst⟩ | ⟨q, st₀, t, T', LL, E', ce, h0, X', hL, e1, e2, ⟨rfl, hP1, hD1, hz, hk⟩, hce, hcv, hcl, hst⟩
  · exact hq.elim
  · rw [h0] at hz hk
    rw [← e1] at hP1 hce
    obtain ⟨t2, a1, b1⟩ := kx T'.heap (locs ++ LL) ls ce q
      ⟨Nat.le_trans hS.1 (by rw [e1]; exact hz), fun q h1 h2 => by rw [e1, hk q (Nat.lt_of_lt_of_le h1 hS.1) h2]; exact hS.2.1 q h1 h2, fun q hq => by
        rcases List.mem_append.mp hq with h | h
        · exact hS.2.2 q h
        · exact hL q h⟩ hP1 hD1 hl hce hcv hcl T' rfl X'
    exact ⟨t2, hst.trans a1, b1⟩
theorem v_callVX (X : vCx p s m args c cc own nL z0 D cy) {C : String} {T : u_T} {idx k ci N : Nat} {fs As st0 : List Value} (wm : Cond.methodLink own idx y ∈ UW) (wi : Cond.instanceMethod y ∈ UW) (wsl : Cond.selects C y y ∈ UW) (wz : Cond.initialized C ∈ UW) (wc : Cond.code y bytes maxL ret ∈ UW)
    (hd : y.cls = C ∧ y.cls ≠ "java/lang/invoke/MethodHandle" ∧ y.cls ≠ "java/lang/invoke/VarHandle" ∧ (parseMethodDescriptor y.desc).map (fun d => d.parameters.length) = some As.length) (hci : vwCl[ci]? = some (C, T, N))
    (d : decode cc pc = .ok (.invokevirtual idx, 3)) (hM : CtX l y bytes maxL ret f lo z0 D cy n ad g (.ref (ad k) :: As) E) (hrecv : vAt n g k (.inr (ci, fs))) (hs : st0 = As.reverse ++ .ref (ad k) :: st) (hst : (st.map fun v => v.category).sum ≤ 8)
    (hR : f + 1 ≤ R.frames ∧ 8 + (maxL + 11) + lo ≤ R.locals ∧ cells + 1 ≤ R.cells ∧ slots + 6 ≤ R.slots)
    (kx : vT p l e R s m args below meth c nL z0 D (cells + 1) (slots + 6) Q n ad g pc L st E) : vV p l e R s m args below meth c nL z0 D cells slots Q n ad g pc L st0 := fun H locs ls hS hPP hD hl =>
  v_ofRunX (vx_runV (As := As) (rest := st) ⟨X.1, X.2.1, X.2.2.1, X.2.2.2.1, X.2.2.2.2.1⟩ hM (cwV As.length X.2.2.2.2.1 (UW_goodL (fun w hw => by
      rcases List.mem_append.mp hw with h | h
      · rcases List.mem_cons.mp h with rfl | h
        · exact wm
        rcases List.mem_cons.mp h with rfl | h
        · exact wi
        rcases List.mem_cons.mp h with rfl | h
        · exact wsl
        rcases List.mem_cons.mp h with rfl | h
        · exact wz
        cases h
      · rcases List.mem_cons.mp h with rfl | h
        · exact wc
        · exact h)) rfl rfl rfl hd ⟨hR.1, hR.2.1⟩) ⟨wd.blind, va_recv X.2.2.2.2.2.1 hPP hci (wl_at hrecv), X.pre hS hPP hD⟩ rfl rfl hl.1 hs (lv_room hst) d ⟨hR.2.2.1, hR.2.2.2⟩) hS hl kx
theorem v_callSX (X : vCx p s m args c cc own nL z0 D cy) {idx : Nat} {As st0 : List Value} (wm : Cond.methodLink own idx y ∈ UW) (wt : Cond.static y ∈ UW) (wz : Cond.initialized y.cls ∈ UW) (wc : Cond.code y bytes maxL ret ∈ UW)
    (hd : y.cls ≠ "java/lang/invoke/MethodHandle" ∧ y.cls ≠ "java/lang/invoke/VarHandle" ∧ (parseMethodDescriptor y.desc).map (fun d => d.parameters.length) = some As.length)
    (d : decode cc pc = .ok (.invokestatic idx, 3)) (hM : CtX l y bytes maxL ret f lo z0 D cy n ad g As E) (hs : st0 = As.reverse ++ st) (hst : (st.map fun v => v.category).sum ≤ 8)
    (hR : f + 1 ≤ R.frames ∧ 8 + (maxL + 11) + lo ≤ R.locals ∧ cells + 1 ≤ R.cells ∧ slots + 6 ≤ R.slots)
    (kx : vT p l e R s m args below meth c nL z0 D (cells + 1) (slots + 6) Q n ad g pc L st E) : vV p l e R s m args below meth c nL z0 D cells slots Q n ad g pc L st0 := fun H locs ls hS hPP hD hl =>
  v_ofRunX (vx_runS (As := As) (rest := st) ⟨X.1, X.2.1, X.2.2.1, X.2.2.2.1, X.2.2.2.2.1⟩ hM ⟨callB_of As.length X.2.2.2.2.1 (UW_good wc) rfl rfl rfl (X.2.2.2.2.1 _ wz) (X.2.2.2.2.1 _ wm) hd ⟨hR.1, hR.2.1⟩, X.2.2.2.2.1 _ wt⟩ ⟨wd.blind, X.pre hS hPP hD⟩ rfl rfl hl.1 hs (lv_room hst) d ⟨hR.2.2.1, hR.2.2.2⟩) hS hl kx
/-- throw new cls(text) -/
theorem v_throwS (X : vCx p s m args c cc RX4 nL z0 D cy) (hl : l.stackTraces = false) {cls text : String} {names : List String} {ik is ic : Nat} (hcls : Bundle.fit cls = true) (hnames : ∀ n ∈ names, Bundle.fit n = true) (hk : Cond.classLink RX4 ik cls ∈ UW) (hini : Cond.initialized cls ∈ UW) (htx : (is, text) ∈ xText)
    (hg : ∀ w ∈ (vx_atS RX4 ic cls names).filter goodWord, w ∈ UW) (hng : ∀ w ∈ (vx_atS RX4 ic cls names).filter (fun w => !goodWord w), (∃ q ∈ xCast, w = .castable q.1 q.2) ∨ ∃ x ∈ xDecl, w = .declares x)
    (hgood : ∀ w ∈ Cond.classLink RX4 ik cls :: Cond.initialized cls :: vx_atS RX4 ic cls names, vx_ot w = true)
    (d0 : decode cc pc = .ok (.new ik, 3)) (d3 : decode cc (pc + 3) = .ok (.dup, 1)) (d4 : decode cc (pc + 4) = .ok (.ldc is, 2)) (d6 : decode cc (pc + 6) = .ok (.invokespecial ic, 3)) (d9 : decode cc (pc + 9) = .ok (.athrow, 1))
    (ht : ∀ x ∈ c.exceptionTable.toList, False) (hlk : meth.locks = false) (hR : names.length + 3 < R.frames ∧ (st.map fun v => v.category).sum + (13 * (names.length + 1) + 43) ≤ R.locals ∧ 1 ≤ R.cells ∧ 6 ≤ R.slots) :
    vV p l e R s m args below meth c nL z0 D 0 0 (vx_MQ below QcF (XCx z0 D n ad g cls) args s 1 6 (fun q => z0 ≤ q)) n ad g pc L st := fun H locs ls hS hP hD hlL => by
  obtain ⟨x1, x2, x3, x4, x5, x6, x7, _⟩ := id X.2.2.2.2.2.2.2
  obtain ⟨sa, hsa⟩ := x5 _ htx
  refine vx_throwS X.1 X.2.1 hl X.2.2.2.1 hcls hnames (X.2.2.2.2.1 _ hk) (X.2.2.2.2.1 _ hini) hsa (fun w hw => ?_) hgood x6 x7 hS (hlL.1.trans X.2.2.1.symm) d0 d3 d4 d6 d9 (fun x hx => (ht x hx).elim) hR.1 hR.2.1 (by omega) (by omega) hlk (fun t _ h1 h2 => ?_) hS.2.2 (Nat.le_refl _) (Nat.le_refl _)
  · by_cases gw : goodWord w = true
    · exact X.2.2.2.2.1 _ (hg w (List.mem_filter.mpr ⟨hw, gw⟩))
    · rcases hng w (List.mem_filter.mpr ⟨hw, by simpa using gw⟩) with ⟨q, hq, rfl⟩ | ⟨x, hx, rfl⟩
      · exact va_Nw.use rfl (x2 q hq)
      · exact va_Nw.use rfl (x3 x hx)
  · refine ⟨rfl, hP.kept (fun k q hk => h2 q.1 (hP k q hk).lt), hD, Nat.le_trans hS.1 h1, fun q hq hna => ?_⟩
    rw [h2 q (Nat.lt_of_lt_of_le hq hS.1)]
    exact hS.2.1 q hq hna
end VX
