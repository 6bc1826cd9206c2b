section
/-- a private method of a class that the tables say can be made, by its rows of tables_1 -/
def lw_okq (q : MethodName × Nat) : Prop := (q.1.cls ≠ "java/lang/invoke/MethodHandle" ∧ q.1.cls ≠ "java/lang/invoke/VarHandle") ∧ Cond.instantiable q.1.cls q.2 ∈ tables_1 ∧ Cond.privateMethod q.1 ∈ tables_1 ∧ Cond.instanceMethod q.1 ∈ tables_1
theorem lw_p0 : lw_okq (⟨"RoofWater$Village", "allThirst", "()I"⟩, 10) := ⟨⟨by decide +kernel, by decide +kernel⟩, List.mem_of_getElem? (i := 38) (by decide +kernel), List.mem_of_getElem? (i := 210) (by decide +kernel), List.mem_of_getElem? (i := 211) (by decide +kernel)⟩
theorem lw_p1 : lw_okq (⟨"RoofWater$Village", "allWatered", "()I"⟩, 10) := ⟨⟨by decide +kernel, by decide +kernel⟩, List.mem_of_getElem? (i := 38) (by decide +kernel), List.mem_of_getElem? (i := 214) (by decide +kernel), List.mem_of_getElem? (i := 215) (by decide +kernel)⟩
theorem lw_p2 : lw_okq (⟨"RoofWater$Village", "openValves", "()I"⟩, 10) := ⟨⟨by decide +kernel, by decide +kernel⟩, List.mem_of_getElem? (i := 38) (by decide +kernel), List.mem_of_getElem? (i := 218) (by decide +kernel), List.mem_of_getElem? (i := 219) (by decide +kernel)⟩
theorem lw_p3 : lw_okq (⟨"RoofWater", "mixHouses", "(J)J"⟩, 3) := ⟨⟨by decide +kernel, by decide +kernel⟩, List.mem_of_getElem? (i := 16) (by decide +kernel), List.mem_of_getElem? (i := 230) (by decide +kernel), List.mem_of_getElem? (i := 231) (by decide +kernel)⟩
theorem lw_p4 : lw_okq (⟨"RoofWater", "mixPipes", "(J)J"⟩, 3) := ⟨⟨by decide +kernel, by decide +kernel⟩, List.mem_of_getElem? (i := 16) (by decide +kernel), List.mem_of_getElem? (i := 238) (by decide +kernel), List.mem_of_getElem? (i := 239) (by decide +kernel)⟩
theorem lw_p5 : lw_okq (⟨"RoofWater", "mixDebts", "(J)J"⟩, 3) := ⟨⟨by decide +kernel, by decide +kernel⟩, List.mem_of_getElem? (i := 16) (by decide +kernel), List.mem_of_getElem? (i := 246) (by decide +kernel), List.mem_of_getElem? (i := 247) (by decide +kernel)⟩
theorem lw_p6 : lw_okq (⟨"java/lang/Throwable", "fillInStackTrace", "(I)Ljava/lang/Throwable;"⟩, 6) := ⟨⟨by decide +kernel, by decide +kernel⟩, List.mem_of_getElem? (i := 311) (by decide +kernel), List.mem_of_getElem? (i := 309) (by decide +kernel), List.mem_of_getElem? (i := 310) (by decide +kernel)⟩
theorem lw_p7 : lw_okq (⟨"RoofWater", "needHouse", "(I)V"⟩, 3) := ⟨⟨by decide +kernel, by decide +kernel⟩, List.mem_of_getElem? (i := 16) (by decide +kernel), List.mem_of_getElem? (i := 402) (by decide +kernel), List.mem_of_getElem? (i := 403) (by decide +kernel)⟩
theorem lw_p8 : lw_okq (⟨"RoofWater", "needPipe", "(I)V"⟩, 3) := ⟨⟨by decide +kernel, by decide +kernel⟩, List.mem_of_getElem? (i := 16) (by decide +kernel), List.mem_of_getElem? (i := 438) (by decide +kernel), List.mem_of_getElem? (i := 439) (by decide +kernel)⟩
theorem lw_p9 : lw_okq (⟨"RoofWater$Village", "liveDay", "()V"⟩, 10) := ⟨⟨by decide +kernel, by decide +kernel⟩, List.mem_of_getElem? (i := 38) (by decide +kernel), List.mem_of_getElem? (i := 509) (by decide +kernel), List.mem_of_getElem? (i := 510) (by decide +kernel)⟩
theorem lw_p10 : lw_okq (⟨"RoofWater$Village", "rainDown", "(I)V"⟩, 10) := ⟨⟨by decide +kernel, by decide +kernel⟩, List.mem_of_getElem? (i := 38) (by decide +kernel), List.mem_of_getElem? (i := 520) (by decide +kernel), List.mem_of_getElem? (i := 521) (by decide +kernel)⟩
theorem lw_p11 : lw_okq (⟨"RoofWater$Village", "openPipesFlow", "()V"⟩, 10) := ⟨⟨by decide +kernel, by decide +kernel⟩, List.mem_of_getElem? (i := 38) (by decide +kernel), List.mem_of_getElem? (i := 537) (by decide +kernel), List.mem_of_getElem? (i := 538) (by decide +kernel)⟩
theorem lw_p12 : lw_okq (⟨"RoofWaterModel", "fail", "(I)I"⟩, 9) := ⟨⟨by decide +kernel, by decide +kernel⟩, List.mem_of_getElem? (i := 620) (by decide +kernel), List.mem_of_getElem? (i := 665) (by decide +kernel), List.mem_of_getElem? (i := 666) (by decide +kernel)⟩
theorem lw_p13 : lw_okq (⟨"RoofWaterModel", "isHouse", "(I)Z"⟩, 9) := ⟨⟨by decide +kernel, by decide +kernel⟩, List.mem_of_getElem? (i := 620) (by decide +kernel), List.mem_of_getElem? (i := 680) (by decide +kernel), List.mem_of_getElem? (i := 681) (by decide +kernel)⟩
theorem lw_p14 : lw_okq (⟨"RoofWaterModel", "ho", "(II)I"⟩, 9) := ⟨⟨by decide +kernel, by decide +kernel⟩, List.mem_of_getElem? (i := 620) (by decide +kernel), List.mem_of_getElem? (i := 684) (by decide +kernel), List.mem_of_getElem? (i := 685) (by decide +kernel)⟩
theorem lw_p15 : lw_okq (⟨"RoofWaterModel", "set", "(III)V"⟩, 9) := ⟨⟨by decide +kernel, by decide +kernel⟩, List.mem_of_getElem? (i := 620) (by decide +kernel), List.mem_of_getElem? (i := 688) (by decide +kernel), List.mem_of_getElem? (i := 689) (by decide +kernel)⟩
def lw_privs_1 : List (MethodName × Nat) := [(⟨"RoofWater$Village", "allThirst", "()I"⟩, 10), (⟨"RoofWater$Village", "allWatered", "()I"⟩, 10), (⟨"RoofWater$Village", "openValves", "()I"⟩, 10), (⟨"RoofWater", "mixHouses", "(J)J"⟩, 3), (⟨"RoofWater", "mixPipes", "(J)J"⟩, 3), (⟨"RoofWater", "mixDebts", "(J)J"⟩, 3), (⟨"java/lang/Throwable", "fillInStackTrace", "(I)Ljava/lang/Throwable;"⟩, 6), (⟨"RoofWater", "needHouse", "(I)V"⟩, 3), (⟨"RoofWater", "needPipe", "(I)V"⟩, 3), (⟨"RoofWater$Village", "liveDay", "()V"⟩, 10), (⟨"RoofWater$Village", "rainDown", "(I)V"⟩, 10), (⟨"RoofWater$Village", "openPipesFlow", "()V"⟩, 10), (⟨"RoofWaterModel", "fail", "(I)I"⟩, 9), (⟨"RoofWaterModel", "isHouse", "(I)Z"⟩, 9), (⟨"RoofWaterModel", "ho", "(II)I"⟩, 9), (⟨"RoofWaterModel", "set", "(III)V"⟩, 9)]
theorem lw_r1 : ∀ q ∈ lw_privs_1, lw_okq q := List.forall_mem_cons.mpr ⟨lw_p0, List.forall_mem_cons.mpr ⟨lw_p1, List.forall_mem_cons.mpr ⟨lw_p2, List.forall_mem_cons.mpr ⟨lw_p3, List.forall_mem_cons.mpr ⟨lw_p4, List.forall_mem_cons.mpr ⟨lw_p5, List.forall_mem_cons.mpr ⟨lw_p6, List.forall_mem_cons.mpr ⟨lw_p7, List.forall_mem_cons.mpr ⟨lw_p8, List.forall_mem_cons.mpr ⟨lw_p9, List.forall_mem_cons.mpr ⟨lw_p10, List.forall_mem_cons.mpr ⟨lw_p11, List.forall_mem_cons.mpr ⟨lw_p12, List.forall_mem_cons.mpr ⟨lw_p13, List.forall_mem_cons.mpr ⟨lw_p14, List.forall_mem_cons.mpr ⟨lw_p15, fun _ h => absurd h List.not_mem_nil⟩⟩⟩⟩⟩⟩⟩⟩⟩⟩⟩⟩⟩⟩⟩⟩
theorem lw_p16 : lw_okq (⟨"RoofWaterModel", "isPipe", "(I)Z"⟩, 9) := ⟨⟨by decide +kernel, by decide +kernel⟩, List.mem_of_getElem? (i := 620) (by decide +kernel), List.mem_of_getElem? (i := 700) (by decide +kernel), List.mem_of_getElem? (i := 701) (by decide +kernel)⟩
theorem lw_p17 : lw_okq (⟨"RoofWaterModel", "pi", "(II)I"⟩, 9) := ⟨⟨by decide +kernel, by decide +kernel⟩, List.mem_of_getElem? (i := 620) (by decide +kernel), List.mem_of_getElem? (i := 704) (by decide +kernel), List.mem_of_getElem? (i := 705) (by decide +kernel)⟩
theorem lw_p18 : lw_okq (⟨"RoofWaterModel", "pour", "(II)I"⟩, 9) := ⟨⟨by decide +kernel, by decide +kernel⟩, List.mem_of_getElem? (i := 620) (by decide +kernel), List.mem_of_getElem? (i := 716) (by decide +kernel), List.mem_of_getElem? (i := 717) (by decide +kernel)⟩
theorem lw_p19 : lw_okq (⟨"RoofWaterModel", "debt", "(II)I"⟩, 9) := ⟨⟨by decide +kernel, by decide +kernel⟩, List.mem_of_getElem? (i := 620) (by decide +kernel), List.mem_of_getElem? (i := 737) (by decide +kernel), List.mem_of_getElem? (i := 738) (by decide +kernel)⟩
theorem lw_p20 : lw_okq (⟨"RoofWaterModel", "daysOn", "(I)I"⟩, 9) := ⟨⟨by decide +kernel, by decide +kernel⟩, List.mem_of_getElem? (i := 620) (by decide +kernel), List.mem_of_getElem? (i := 745) (by decide +kernel), List.mem_of_getElem? (i := 746) (by decide +kernel)⟩
theorem lw_p21 : lw_okq (⟨"RoofWaterModel", "dayOn", "()I"⟩, 9) := ⟨⟨by decide +kernel, by decide +kernel⟩, List.mem_of_getElem? (i := 620) (by decide +kernel), List.mem_of_getElem? (i := 749) (by decide +kernel), List.mem_of_getElem? (i := 750) (by decide +kernel)⟩
theorem lw_p22 : lw_okq (⟨"RoofWaterModel", "even", "(I)V"⟩, 9) := ⟨⟨by decide +kernel, by decide +kernel⟩, List.mem_of_getElem? (i := 620) (by decide +kernel), List.mem_of_getElem? (i := 753) (by decide +kernel), List.mem_of_getElem? (i := 754) (by decide +kernel)⟩
theorem lw_p23 : lw_okq (⟨"RoofWaterModel", "counted", "(I)I"⟩, 9) := ⟨⟨by decide +kernel, by decide +kernel⟩, List.mem_of_getElem? (i := 620) (by decide +kernel), List.mem_of_getElem? (i := 762) (by decide +kernel), List.mem_of_getElem? (i := 763) (by decide +kernel)⟩
theorem lw_p24 : lw_okq (⟨"RoofWaterModel", "all", "(I)I"⟩, 9) := ⟨⟨by decide +kernel, by decide +kernel⟩, List.mem_of_getElem? (i := 620) (by decide +kernel), List.mem_of_getElem? (i := 766) (by decide +kernel), List.mem_of_getElem? (i := 767) (by decide +kernel)⟩
theorem lw_p25 : lw_okq (⟨"RoofWaterModel", "kept", "()[[I"⟩, 9) := ⟨⟨by decide +kernel, by decide +kernel⟩, List.mem_of_getElem? (i := 620) (by decide +kernel), List.mem_of_getElem? (i := 774) (by decide +kernel), List.mem_of_getElem? (i := 775) (by decide +kernel)⟩
theorem lw_p26 : lw_okq (⟨"RoofWaterModel", "bringBack", "([[I)V"⟩, 9) := ⟨⟨by decide +kernel, by decide +kernel⟩, List.mem_of_getElem? (i := 620) (by decide +kernel), List.mem_of_getElem? (i := 786) (by decide +kernel), List.mem_of_getElem? (i := 787) (by decide +kernel)⟩
def lw_privs_2 : List (MethodName × Nat) := [(⟨"RoofWaterModel", "isPipe", "(I)Z"⟩, 9), (⟨"RoofWaterModel", "pi", "(II)I"⟩, 9), (⟨"RoofWaterModel", "pour", "(II)I"⟩, 9), (⟨"RoofWaterModel", "debt", "(II)I"⟩, 9), (⟨"RoofWaterModel", "daysOn", "(I)I"⟩, 9), (⟨"RoofWaterModel", "dayOn", "()I"⟩, 9), (⟨"RoofWaterModel", "even", "(I)V"⟩, 9), (⟨"RoofWaterModel", "counted", "(I)I"⟩, 9), (⟨"RoofWaterModel", "all", "(I)I"⟩, 9), (⟨"RoofWaterModel", "kept", "()[[I"⟩, 9), (⟨"RoofWaterModel", "bringBack", "([[I)V"⟩, 9)]
theorem lw_r2 : ∀ q ∈ lw_privs_2, lw_okq q := List.forall_mem_cons.mpr ⟨lw_p16, List.forall_mem_cons.mpr ⟨lw_p17, List.forall_mem_cons.mpr ⟨lw_p18, List.forall_mem_cons.mpr ⟨lw_p19, List.forall_mem_cons.mpr ⟨lw_p20, List.forall_mem_cons.mpr ⟨lw_p21, List.forall_mem_cons.mpr ⟨lw_p22, List.forall_mem_cons.mpr ⟨lw_p23, List.forall_mem_cons.mpr ⟨lw_p24, List.forall_mem_cons.mpr ⟨lw_p25, List.forall_mem_cons.mpr ⟨lw_p26, fun _ h => absurd h List.not_mem_nil⟩⟩⟩⟩⟩⟩⟩⟩⟩⟩⟩
def lw_privs : List (MethodName × Nat) := lw_privs_1 ++ (lw_privs_2)
def lw_tbl : List Cond := k2_sels lw_privs ++ tables_1
theorem lw_privs_ok : ∀ q ∈ lw_privs, lw_okq q := by
  show ∀ q ∈ lw_privs_1 ++ (lw_privs_2), lw_okq q
  exact List.forall_mem_append.mpr ⟨lw_r1, lw_r2⟩
/-- the streams that the claim lets the run draw from -/
abbrev lw_cs : List Choice := [Jvm.Choice.named "NaN.bits"]
theorem lw_bits : nanBits ∈ lw_cs := by first | decide | exact List.mem_cons_self | simp [lw_cs, nanBits]
end
section
/-! ===== BEGIN words of one list among another's, by their places ===== -/
theorem goodIn_r {big : List Cond} (ws : List Cond) (ps : List Nat) (hp : ws = ps.filterMap (fun i => big[i]?)) (h : ws.all goodWord = true) : GoodIn big ws := by
  intro w hw
  have h1 := List.all_eq_true.mp h w hw
  rw [hp] at hw
  obtain ⟨i, -, hi⟩ := List.mem_filterMap.mp hw
  have hm : w ∈ big := by first | exact List.mem_of_getElem? hi | exact List.getElem?_mem hi
  exact ⟨hm, good_of_word h1⟩
theorem goodIn_app {big a b : List Cond} (ha : GoodIn big a) (hb : GoodIn big b) : GoodIn big (a ++ b) := fun w h => (List.mem_append.mp h).elim (ha w) (hb w)
theorem goodIn_ca {big a b : List Cond} {c : Cond} (ha : GoodIn big (c :: a)) (hb : GoodIn big b) : GoodIn big (c :: (a ++ b)) := fun w h => (List.mem_cons.mp h).elim (fun e => ha w (List.mem_cons.mpr (Or.inl e))) (fun h => (List.mem_append.mp h).elim (fun h => ha w (List.mem_cons.mpr (Or.inr h))) (hb w))
theorem goodIn_sub {big ws : List Cond} (hm : ∀ w ∈ ws, w ∈ big) (h : ws.all goodWord = true) : GoodIn big ws := fun w hw => ⟨hm w hw, good_of_word (List.all_eq_true.mp h w hw)⟩
/-! ===== END ===== -/

/-! ===== BEGIN exceptions that leave a method, and their catching by the caller (launches without stack traces) ===== -/
section VXA
/-! The laws vx_back, vx_callV, vx_callS, vx_callSW, vx_throw0, vx_throwS follow proofs of the library, with one case more: JvmDerived/Free/Laws.lean (Back.of_free), Shelf42/LK1.lean (callV, callS), Shelf/KitTraced.lean (throwNew0V, throwNewS). -/
/-- where a method has thrown q: the class by its name, the cell, what was written, the world -/
def vx_T (XC : String → State → State → Prop) (st : State) (q : Addr) (t : State) (mc ms : Nat) (free : Addr → Prop) : Prop :=
  ∃ (E : String) (ce : Cell) (L : List Loc), XC E st t ∧ t.heap[q]? = some ce ∧ ce.vm = .none ∧ st.vm.findClass E = some ce.cls ∧ st.WarmedH t.vm ∧ st.sameButNew ({ t with vm := st.vm } : State) L mc ms ∧ ∀ z ∈ L, free z.base
def vx_Q (Qc : Array Value → State → Outcome → State → Prop) (XC : String → State → State → Prop) (mc ms : Nat) (free : Addr → Prop) : Array Value → State → Outcome → State → Prop := fun a st o t =>
  (Qc a st o t ∧ ∃ L, FrameEnd st o t L mc ms ∧ ∀ q ∈ L, free q.base) ∨ ∃ q, o = .threw q ∧ vx_T XC st q t mc ms free
/-- a callee that returns or throws -/
def vx_Met (l : Launch) (y : MethodName) (ws : List Cond) (rm : Room) (Pc : Array Value → State → Prop) (Qc : Array Value → State → Outcome → State → Prop) (XC : String → State → State → Prop) (mc ms : Nat) (free : Addr → Prop) : Prop :=
  MetFree l y (headSpec ws rm) Pc (fun _ _ _ _ _ => True) (vx_Q Qc XC mc ms free)
def vx_Post (XC : String → State → State → Prop) (mc ms : Nat) (free : Addr → Prop) : Pt → Array Value → Addr → Pt → Prop := fun A a q B =>
  ∃ (g : JFrame) (mk : MethodId) (t : State) (L : List Loc) (E : String) (ce : Cell), B.U.heap = t.heap ∧ B.U.vm = t.vm ∧ XC E (A.U.calling g mk a) t ∧ t.heap[q]? = some ce ∧ ce.vm = .none ∧ A.U.vm.findClass E = some ce.cls ∧ B.locs = A.locs ++ L ∧ (∀ z ∈ L, free z.base) ∧ B.cells = A.cells + mc ∧ B.slots = A.slots + ms
def vx_Back (l : Launch) (R : Room) (p : Program) (e : Env) (below : List Frame) (s : State) (sargs : Array Value) (y : MethodName) (len W9 : Nat)
    (Pre : Pt → Array Value → Prop) (Post : Pt → Array Value → Option Value → Pt → Prop) (PostX : Pt → Array Value → Addr → Pt → Prop) : Prop :=
  ∀ (m : MethodId) (meth : Method) (c : Code) (A : Pt) (g : JFrame) (ig : Instr) (mk : MethodId) (a : Array Value),
    Stand p l e R s m sargs below meth c A.U A.locs A.cells A.slots → g.method = m → g.locals.size = c.maxLocals → decode c.code g.pc = .ok (ig, len) →
    2 * g.monitorRoom + (g.stack.map fun v => v.category).sum ≤ W9 → A.U.methodNamed? y = some mk → Pre A a →
    (∃ (v : Option Value) (B : Pt), Stand p l e R s m sargs below meth c B.U B.locs B.cells B.slots ∧ Post A a v B ∧
      Steps p.tables e below (doInvoke e (A.U.setTop g) [] mk a).1 (B.U.setTop { g with pc := g.pc + len, stack := v.toList ++ g.stack })) ∨
    (∃ (q : Addr) (B : Pt), Stand p l e R s m sargs below meth c B.U B.locs B.cells B.slots ∧ PostX A a q B ∧
      Steps p.tables e below (doInvoke e (A.U.setTop g) [] mk a).1 ((B.U.setTop g).pushFrame (.throwing q)))
section Payer
variable {l : Launch} {R : Room} {p : Program} {e : Env} {below : List Frame} {s : State} {sargs : Array Value} {y : MethodName} {len W9 : Nat}
theorem vx_back {ws : List Cond} {rm : Room} {Pc : Array Value → State → Prop} {Qc : Array Value → State → Outcome → State → Prop} {XC : String → State → State → Prop} {mc ms : Nat} {free : Addr → Prop} {bytes : ByteArray} {maxL : Nat} {ret : Option FieldType}
    (hM : vx_Met l y ws rm Pc Qc XC mc ms free) (hblind : FrameBlind Pc) (hrc : rm.cells = mc) (hrs : rm.slots = ms)
    (hframes : rm.frames + 1 ≤ R.frames) (hlocals : W9 + (maxL + 11) + rm.locals ≤ R.locals)
    (hws : ∀ w ∈ ws, ∀ a' U, s.WarmedH U.vm → w.before a' U = true) (hcode : Cond.code y bytes maxL ret ∈ ws) (hinit : ∀ a' U, s.WarmedH U.vm → (Cond.initialized y.cls).before a' U = true) :
    vx_Back l R p e below s sargs y len W9 (PreOf R mc ms Pc) (PostOf Qc mc ms free) (vx_Post XC mc ms free) := by
  intro m meth c A g ig mk a X hg hsize hdg hW hn hp
  have h1 : (headSpec ws rm).pre.before a A.U = true := atoms_intro fun w hw => hws w hw _ _ X.warmed
  have h2 : (Cond.code y bytes maxL ret).before a A.U = true := hws _ hcode _ _ X.warmed
  have h3 : (Cond.initialized y.cls).before a A.U = true := hinit _ _ X.warmed
  have h4 : A.cells + (headSpec ws rm).room.cells ≤ R.cells := by rw [show (headSpec ws rm).room.cells = mc from hrc]; exact hp.1
  have h5 : A.slots + (headSpec ws rm).room.slots ≤ R.slots := by rw [show (headSpec ws rm).room.slots = ms from hrs]; exact hp.2.1
  have hPc : Pc a (A.U.calling g mk a) := hblind _ _ _ _ hp.2.2
  obtain ⟨U, Ls, c0, s0⟩ := A
  dsimp only [Pt.U, Pt.locs, Pt.cells, Pt.slots] at h1 h2 h3 h4 h5 X hn hPc ⊢
  obtain ⟨methY, cY, hmY, hcY, -, hlY, -, -, -, -⟩ := Cond.code_spec hn h2
  obtain ⟨kY, hkY, -⟩ := className_of_methodNamed hn
  have hinitY : kY.init = .initialized := Cond.initialized_spec (findClass_of_methodNamed hn) hkY h3
  have h : At U g.method c below := by rw [hg]; exact X.here
  have hlocals9 : W9 + (maxL + 11) + (headSpec ws rm).room.locals ≤ R.locals := hlocals
  have happ : (headSpec ws rm).appliesLoose y e.platform (U.calling g mk a) = true :=
    Spec.appliesLoose_calling (g := g) h hdg hn hkY hinitY
      (X.room_calling (g := g) (R' := (headSpec ws rm).room) hsize hmY hcY hframes (by rw [hlY]; omega) h4 h5) h1
  obtain ⟨mid, hmid⟩ := h.above
  have hfr : (U.setTop g).frames = (.java g :: mid) ++ below := by rw [State.frames_setTop' g h.top, hmid]; rfl
  obtain ⟨o, s₂, hsteps, -, hend, hq⟩ := Steps.callFree hM p X.admits X.cas X.clock (acts := []) hfr happ hPc trivial
  have hq' : vx_Q Qc XC mc ms free a (U.calling g mk a) o s₂ := hq
  rw [State.frames_setTop' g h.top] at hend
  obtain ⟨g₀, hg0⟩ := Option.isSome_iff_exists.mp h.top
  obtain ⟨r, hr⟩ := State.topJava?_eq_some.mp hg0
  have hr' : (({ U with heap := s₂.heap, slotsUsed := s₂.slotsUsed } : State).setVm s₂.vm).frames = .java g₀ :: r := hr
  rcases hq' with ⟨hqc, L, hfe, hL⟩ | ⟨q, rfl, E, ce, L, hx, hce, hcv, hcl, hW₂, hsm, hL⟩
  · obtain ⟨⟨v, rfl⟩, hW₂, e2, q2, q3, q4, q5, q6⟩ := id hfe
    have e3 : s₂ = ({ (U.calling g mk a).setFrames s₂.frames with heap := s₂.heap, slotsUsed := s₂.slotsUsed } : State).setVm s₂.vm := by
      have : s₂ = ({ s₂ with vm := (U.calling g mk a).vm } : State).setVm s₂.vm := rfl
      rw [e2] at this
      exact this
    obtain ⟨c₂, i₂, len₂, hc₂, hd₂, hf₂⟩ := hend
    have hW' : U.WarmedH s₂.vm := hW₂
    have hcc : c₂ = c := by
      have h1 : s₂.code? g.method = U.code? g.method := by
        rw [State.code?_eq, State.code?_eq, hW'.alike.method?]
      exact Option.some.inj (hc₂.symm.trans (h1.trans h.code))
    subst hcc
    have hlen : len₂ = len := by rw [hdg] at hd₂; cases hd₂; rfl
    subst hlen
    have hs₂ : s₂ = (({ U with heap := s₂.heap, slotsUsed := s₂.slotsUsed } : State).setVm s₂.vm).setTop { g with pc := g.pc + len₂, stack := v.toList ++ g.stack } := by
      refine e3.trans ?_
      rw [hf₂, State.calling_eq h.top, State.setFrames_setFrames, State.setTop_of_frames _ hr', hr]
      rfl
    have hsame : U.sameButNew ({ U with heap := s₂.heap, slotsUsed := s₂.slotsUsed } : State) L mc ms := by
      refine ⟨?_, q2, q3, q4, q5, q6⟩
      obtain ⟨t, ht, -⟩ := State.frames_cons hr
      show ({ U with heap := s₂.heap, slotsUsed := s₂.slotsUsed } : State) = { U.setFrames U.frames with heap := s₂.heap, slotsUsed := s₂.slotsUsed }
      rw [State.setFrames_self ht]
    subst hg
    refine Or.inl ⟨v, ⟨(({ U with heap := s₂.heap, slotsUsed := s₂.slotsUsed } : State).setVm s₂.vm), Ls ++ L, c0 + mc, s0 + ms⟩,
      ⟨X.admits, X.cas, X.clock, X.frames, X.room, X.hears, X.method, X.code, (X.here.setHeapUsed s₂.heap s₂.slotsUsed).setVm hW'.alike, X.tail, State.WarmedH.trans X.warmed hW', X.limits, X.bytes, X.same.trans (hsame.setVm s.vm)⟩,
      ⟨g, mk, s₂, L, rfl, rfl, hqc, rfl, hL, rfl, rfl⟩, ?_⟩
    show Steps p.tables e below _ ((({ U with heap := s₂.heap, slotsUsed := s₂.slotsUsed } : State).setVm s₂.vm).setTop { g with pc := g.pc + len₂, stack := v.toList ++ g.stack })
    rw [← hs₂]
    exact hsteps
  · obtain ⟨e2, q2, q3, q4, q5, q6⟩ := id hsm
    have e3 : s₂ = ({ (U.calling g mk a).setFrames s₂.frames with heap := s₂.heap, slotsUsed := s₂.slotsUsed } : State).setVm s₂.vm := by
      have : s₂ = ({ s₂ with vm := (U.calling g mk a).vm } : State).setVm s₂.vm := rfl
      rw [e2] at this
      exact this
    have hf₂ : s₂.frames = .throwing q :: .java g :: U.frames.tail := hend
    have hW' : U.WarmedH s₂.vm := hW₂
    have hs₂ : s₂ = ((({ U with heap := s₂.heap, slotsUsed := s₂.slotsUsed } : State).setVm s₂.vm).setTop g).pushFrame (.throwing q) := by
      refine e3.trans ?_
      rw [hf₂, State.calling_eq h.top, State.setFrames_setFrames, State.pushFrame, State.frames_setTop _ hr', State.setTop_of_frames _ hr', State.setFrames_setFrames, hr]
      rfl
    have hsame : U.sameButNew ({ U with heap := s₂.heap, slotsUsed := s₂.slotsUsed } : State) L mc ms := by
      refine ⟨?_, q2, q3, q4, q5, q6⟩
      obtain ⟨t, ht, -⟩ := State.frames_cons hr
      show ({ U with heap := s₂.heap, slotsUsed := s₂.slotsUsed } : State) = { U.setFrames U.frames with heap := s₂.heap, slotsUsed := s₂.slotsUsed }
      rw [State.setFrames_self ht]
    subst hg
    refine Or.inr ⟨q, ⟨(({ U with heap := s₂.heap, slotsUsed := s₂.slotsUsed } : State).setVm s₂.vm), Ls ++ L, c0 + mc, s0 + ms⟩,
      ⟨X.admits, X.cas, X.clock, X.frames, X.room, X.hears, X.method, X.code, (X.here.setHeapUsed s₂.heap s₂.slotsUsed).setVm hW'.alike, X.tail, State.WarmedH.trans X.warmed hW', X.limits, X.bytes, X.same.trans (hsame.setVm s.vm)⟩,
      ⟨g, mk, s₂, L, E, ce, rfl, rfl, hx, hce, hcv, hcl, rfl, hL, rfl, rfl⟩, ?_⟩
    show Steps p.tables e below _ (((({ U with heap := s₂.heap, slotsUsed := s₂.slotsUsed } : State).setVm s₂.vm).setTop g).pushFrame (.throwing q))
    rw [← hs₂]
    exact hsteps
end Payer
section Calls
variable {p : Program} {l : Launch} {e : Env} {R : Room} {s : State} {m : MethodId} {args : Array Value} {below : List Frame} {meth : Method} {c : Code} {T : State} {locs : List Loc} {cells slots : Nat}
theorem vx_callV (X : Stand p l e R s m args below meth c T locs cells slots) (hexec : p.tables.exec = Jvm.exec) {own C : String} {index : Nat} {y : MethodName} {bytes : ByteArray} {maxL : Nat} {ret : Option FieldType}
    (hown : s.vm.findClass own = some m.cls) (hlink : (Cond.methodLink own index y).before args s = true) (hinst : (Cond.instanceMethod y).before args s = true) (hsel : (Cond.selects C y y).before args s = true)
    (hcode : (Cond.code y bytes maxL ret).before args s = true) (hy : y.cls ≠ "java/lang/invoke/MethodHandle" ∧ y.cls ≠ "java/lang/invoke/VarHandle")
    {W9 : Nat} {Pre : Pt → Array Value → Prop} {Post : Pt → Array Value → Option Value → Pt → Prop} {PostX : Pt → Array Value → Addr → Pt → Prop} (hK : vx_Back l R p e below s args y 3 W9 Pre Post PostX)
    {b : Addr} {cellB : Cell} (hcell : T.heap[b]? = some cellB) (hobj : cellB.vm.isStatics = false) (hcls : s.vm.findClass C = some cellB.cls)
    {g : JFrame} (hg : g.method = m) (hsize : g.locals.size = c.maxLocals) {argsL rest : List Value} (hlen : ∀ sig, parseMethodDescriptor y.desc = some sig → argsL.length = sig.parameters.length)
    (hstack : g.stack = argsL.reverse ++ .ref b :: rest) (hW : 2 * g.monitorRoom + (rest.map fun v => v.category).sum ≤ W9) (hdg : decode c.code g.pc = .ok (.invokevirtual index, 3))
    (hpre : ∀ vm₁, s.WarmedH vm₁ → Pre ⟨T.setVm vm₁, locs, cells, slots⟩ (Value.ref b :: argsL).toArray) :
    (∃ (v : Option Value) (vm₁ : Vm) (B : Pt), s.WarmedH vm₁ ∧ Stand p l e R s m args below meth c B.U B.locs B.cells B.slots ∧ Post ⟨T.setVm vm₁, locs, cells, slots⟩ (Value.ref b :: argsL).toArray v B ∧
      ∀ target, Steps p.tables e below (B.U.setTop { g with pc := g.pc + 3, stack := v.toList ++ rest }) target → Steps p.tables e below (T.setTop g) target) ∨
    (∃ (q : Addr) (vm₁ : Vm) (B : Pt), s.WarmedH vm₁ ∧ Stand p l e R s m args below meth c B.U B.locs B.cells B.slots ∧ PostX ⟨T.setVm vm₁, locs, cells, slots⟩ (Value.ref b :: argsL).toArray q B ∧
      Steps p.tables e below (T.setTop g) ((B.U.setTop { g with stack := rest }).pushFrame (.throwing q))) := by
  obtain ⟨mk, methM, hnamed, hmethM, hstM, habM⟩ := Cond.instanceMethod_spec hinst
  obtain ⟨methM', cM, hmethM', -, -, -, -, -, -, hsigM⟩ := Cond.code_spec hnamed hcode
  cases hmethM.symm.trans hmethM'
  obtain ⟨c2, r2, m2, q1, q2, q3, q4, kP, hkP, hkPi⟩ := Cond.selects_spec hsel
  cases hcls.symm.trans q1
  cases (State.methodFound?_of_named hnamed hy).symm.trans q2
  cases hnamed.symm.trans q3
  have hselP : selectMethod e.platform s.vm cellB.cls mk = .method mk := by rw [Launch.admits_selectMethod X.admits]; exact q4
  obtain ⟨vm₁, X₁, hstep₁⟩ := X.invokevirtual hexec hown hlink hnamed hmethM hstM hkP hkPi hy (a := b) (cell := cellB) hcell
    (fun z h => by rw [h] at hobj; cases hobj) hselP hmethM habM hkP hkPi (g := g) hg (argsL := argsL) (rest := rest) (hlen _ hsigM) hstack hdg
  rcases hK m meth c ⟨T.setVm vm₁, locs, cells, slots⟩ { g with stack := rest } (.invokevirtual index) mk (Value.ref b :: argsL).toArray X₁ hg hsize hdg hW (X₁.named hnamed) (hpre vm₁ X₁.warmed) with ⟨v, B, X', hpost, hsteps⟩ | ⟨q, B, X', hpost, hsteps⟩
  · exact Or.inl ⟨v, vm₁, B, X₁.warmed, X', hpost, fun target h => hstep₁ _ fun acts => by rw [doInvoke_state]; exact hsteps.trans h⟩
  · exact Or.inr ⟨q, vm₁, B, X₁.warmed, X', hpost, hstep₁ _ fun acts => by rw [doInvoke_state]; exact hsteps⟩
theorem vx_callS (X : Stand p l e R s m args below meth c T locs cells slots) (hexec : p.tables.exec = Jvm.exec) {own : String} {index : Nat} {y : MethodName} {bytes : ByteArray} {maxL : Nat} {ret : Option FieldType}
    (hown : s.vm.findClass own = some m.cls) (hlink : (Cond.methodLink own index y).before args s = true) (hstat : (Cond.static y).before args s = true) (hinit : (Cond.initialized y.cls).before args s = true)
    (hcode : (Cond.code y bytes maxL ret).before args s = true) (hy : y.cls ≠ "java/lang/invoke/MethodHandle" ∧ y.cls ≠ "java/lang/invoke/VarHandle")
    {W9 : Nat} {Pre : Pt → Array Value → Prop} {Post : Pt → Array Value → Option Value → Pt → Prop} {PostX : Pt → Array Value → Addr → Pt → Prop} (hK : vx_Back l R p e below s args y 3 W9 Pre Post PostX)
    {g : JFrame} (hg : g.method = m) (hsize : g.locals.size = c.maxLocals) {argsL rest : List Value} (hlen : ∀ sig, parseMethodDescriptor y.desc = some sig → argsL.length = sig.parameters.length)
    (hstack : g.stack = argsL.reverse ++ rest) (hW : 2 * g.monitorRoom + (rest.map fun v => v.category).sum ≤ W9) (hdg : decode c.code g.pc = .ok (.invokestatic index, 3))
    (hpre : ∀ vm₁, s.WarmedH vm₁ → Pre ⟨T.setVm vm₁, locs, cells, slots⟩ argsL.toArray) :
    (∃ (v : Option Value) (vm₁ : Vm) (B : Pt), s.WarmedH vm₁ ∧ Stand p l e R s m args below meth c B.U B.locs B.cells B.slots ∧ Post ⟨T.setVm vm₁, locs, cells, slots⟩ argsL.toArray v B ∧
      ∀ target, Steps p.tables e below (B.U.setTop { g with pc := g.pc + 3, stack := v.toList ++ rest }) target → Steps p.tables e below (T.setTop g) target) ∨
    (∃ (q : Addr) (vm₁ : Vm) (B : Pt), s.WarmedH vm₁ ∧ Stand p l e R s m args below meth c B.U B.locs B.cells B.slots ∧ PostX ⟨T.setVm vm₁, locs, cells, slots⟩ argsL.toArray q B ∧
      Steps p.tables e below (T.setTop g) ((B.U.setTop { g with stack := rest }).pushFrame (.throwing q))) := by
  obtain ⟨mk, hnamed⟩ := Cond.code_named hcode
  obtain ⟨methM, cM, hmethM, -, -, -, -, -, -, hsigM⟩ := Cond.code_spec hnamed hcode
  have hstatic : methM.isStatic = true := Cond.static_spec hnamed hmethM hstat
  obtain ⟨kP, hkP, -⟩ := className_of_methodNamed hnamed
  have hinitP : kP.init = .initialized := Cond.initialized_spec (findClass_of_methodNamed hnamed) hkP hinit
  obtain ⟨vm₁, X₁, hstep₁⟩ := X.invokestatic hexec hown hlink hnamed hmethM hstatic hkP hinitP hy (g := g) hg (argsL := argsL) (rest := rest) (hlen _ hsigM) hstack hdg
  rcases hK m meth c ⟨T.setVm vm₁, locs, cells, slots⟩ { g with stack := rest } (.invokestatic index) mk argsL.toArray X₁ hg hsize hdg hW (X₁.named hnamed) (hpre vm₁ X₁.warmed) with ⟨v, B, X', hpost, hsteps⟩ | ⟨q, B, X', hpost, hsteps⟩
  · exact Or.inl ⟨v, vm₁, B, X₁.warmed, X', hpost, fun target h => hstep₁ _ fun acts => by rw [doInvoke_state]; exact hsteps.trans h⟩
  · exact Or.inr ⟨q, vm₁, B, X₁.warmed, X', hpost, hstep₁ _ fun acts => by rw [doInvoke_state]; exact hsteps⟩
end Calls
theorem vx_cls {s : State} {T : State} {vm₁ : Vm} {E : String} {k : ClassId} (hW : s.WarmedH vm₁) (h : (T.setVm vm₁).vm.findClass E = some k) : s.vm.findClass E = some k := by
  have h1 : vm₁.findClass E = some k := h
  rw [hW.alike.findClass] at h1
  exact h1
/-- the method's frame g, with q thrown over it -/
def vx_W (p : Program) (l : Launch) (e : Env) (R : Room) (s : State) (m : MethodId) (args : Array Value) (below : List Frame) (meth : Method) (c : Code) (H : Heap) (locs : List Loc) (cells slots : Nat) (Q : State → Prop) (g : JFrame) (q : Addr) : Prop :=
  ∀ T : State, T.heap = H → Stand p l e R s m args below meth c T locs cells slots → ∃ t, Steps p.tables e below ((T.setTop g).pushFrame (.throwing q)) t ∧ Q t
def vx_Run (p : Program) (l : Launch) (e : Env) (R : Room) (s : State) (m : MethodId) (args : Array Value) (below : List Frame) (meth : Method) (c : Code) (H : Heap) (locs : List Loc) (cells slots mc ms : Nat) (g : JFrame) (rest : List Value) (Qa : State → Outcome → State → Prop) (XC : String → State → State → Prop) (free : Addr → Prop) : Prop :=
  ∀ T : State, T.heap = H → Stand p l e R s m args below meth c T locs cells slots →
    (∃ (v : Option Value) (st₀ t T' : State) (L : List Loc), st₀.heap = H ∧ Stand p l e R s m args below meth c T' (locs ++ L) (cells + mc) (slots + ms) ∧ (∀ q ∈ L, free q.base) ∧ T'.heap = t.heap ∧ T'.vm = t.vm ∧ Qa st₀ (.returned v) t ∧
      Goes p e below T g T' { g with pc := g.pc + 3, stack := v.toList ++ rest }) ∨
    (∃ (q : Addr) (st₀ t T' : State) (L : List Loc) (E : String) (ce : Cell), st₀.heap = H ∧ Stand p l e R s m args below meth c T' (locs ++ L) (cells + mc) (slots + ms) ∧ (∀ z ∈ L, free z.base) ∧ T'.heap = t.heap ∧ T'.vm = t.vm ∧ XC E st₀ t ∧ t.heap[q]? = some ce ∧ ce.vm = .none ∧ s.vm.findClass E = some ce.cls ∧
      Steps p.tables e below (T.setTop g) ((T'.setTop { g with stack := rest }).pushFrame (.throwing q)))
def vx_X {S : Type} (px : S → Prop) (B : String → S → State → Prop) (A : Nat → Prop) : String → State → State → Prop := fun E st t => ∃ u : S, px u ∧ B E u t ∧ va_F A st t
section Runs
variable {p : Program} {l : Launch} {e : Env} {R : Room} {s : State} {m : MethodId} {args : Array Value} {below : List Frame} {meth : Method} {c : Code} {H : Heap} {locs : List Loc} {cells slots : Nat}
variable {y : MethodName} {bytes cc : ByteArray} {maxL nL mc ms n index : Nat} {ret : Option FieldType} {ws : List Cond} {rm : Room} {Pc : Array Value → State → Prop} {Qc : Array Value → State → Outcome → State → Prop} {XC : String → State → State → Prop} {free : Addr → Prop} {Ts : List Cond} {own C : String} {b : Addr} {As rest : List Value} {g : JFrame}
theorem vx_callBack (cb : CallB R s args own index y bytes maxL ret ws rm mc ms n) (hM : vx_Met l y ws rm Pc Qc XC mc ms free) (hbl : FrameBlind Pc) : vx_Back l R p e below s args y 3 8 (PreOf R mc ms Pc) (PostOf Qc mc ms free) (vx_Post XC mc ms free) := by
  obtain ⟨hrc, hrs, hfr, hlo, hws, hcw, -, hini, -⟩ := cb
  exact vx_back (bytes := bytes) (maxL := maxL) (ret := ret) hM hbl hrc hrs hfr hlo hws hcw (fun a' U hW => word_at hW (Or.inl (by first | rfl | simp [Cond.onTables, Cond.keeps, Cond.steady])) hini)
theorem vx_runV (S : CallFix p m c cc nL s args Ts own) (hM : vx_Met l y ws rm Pc Qc XC mc ms free) (cw : CallW R s args own C index y bytes maxL ret ws rm mc ms n) (hp : PreV s H C b Pc As)
    (hg : g.method = m) (hn : As.length = n) (hsize : g.locals.size = nL) (hstack : g.stack = As.reverse ++ .ref b :: rest) (hW : 2 * g.monitorRoom + (rest.map fun v => v.category).sum ≤ 8) (hdg : decode cc g.pc = .ok (.invokevirtual index, 3)) (hf : cells + mc ≤ R.cells ∧ slots + ms ≤ R.slots) :
    vx_Run p l e R s m args below meth c H locs cells slots mc ms g rest (Qc (Value.ref b :: As).toArray) XC free := by
  have hK : vx_Back l R p e below s args y 3 8 (PreOf R mc ms Pc) (PostOf Qc mc ms free) (vx_Post XC mc ms free) := vx_callBack cw.1 hM hp.1
  obtain ⟨⟨-, -, -, -, -, -, hcode, -, hy, hlen, hl⟩, hin, hse⟩ := cw
  obtain ⟨hx, hb, hml, ho, -⟩ := S
  obtain ⟨-, ⟨cellB, hcB, hoB, hclB⟩, hPc⟩ := hp
  intro T hT X
  rcases vx_callV X hx (C := C) (bytes := bytes) (maxL := maxL) (ret := ret) ho hl hin hse hcode hy hK (by rw [hT]; exact hcB) hoB hclB hg (hsize.trans hml.symm) (argsL := As) (rest := rest) (fun sig h => hn.trans (hlen sig h)) hstack hW (by rw [hb]; exact hdg)
    (fun vm₁ hW₁ => ⟨hf.1, hf.2, hPc (T.setVm vm₁) hT hW₁⟩) with ⟨v, vm₁, ⟨U', l2, c2, s2⟩, hW₁, X', ⟨g', mk, t, L, e1, e2, hq, h1, hL, h2, h3⟩, st⟩ | ⟨q, vm₁, ⟨U', l2, c2, s2⟩, hW₁, X', ⟨g', mk, t, L, E, ce, e1, e2, hq, hce, hcv, hcl, h1, hL, h2, h3⟩, st⟩
  · dsimp only [Pt.U, Pt.locs, Pt.cells, Pt.slots] at X' e1 e2 h1 h2 h3 st
    subst h1; subst h2; subst h3
    exact Or.inl ⟨v, (T.setVm vm₁).calling g' mk (Value.ref b :: As).toArray, t, U', L, hT, X', hL, e1, e2, hq, st⟩
  · dsimp only [Pt.U, Pt.locs, Pt.cells, Pt.slots] at X' e1 e2 h1 h2 h3 st hcl
    subst h1; subst h2; subst h3
    exact Or.inr ⟨q, (T.setVm vm₁).calling g' mk (Value.ref b :: As).toArray, t, U', L, E, ce, hT, X', hL, e1, e2, hq, hce, hcv, vx_cls hW₁ hcl, st⟩
theorem vx_runS (S : CallFix p m c cc nL s args Ts own) (hM : vx_Met l y ws rm Pc Qc XC mc ms free) (cw : CallB R s args own index y bytes maxL ret ws rm mc ms n ∧ (Cond.static y).before args s = true) (hp : PreS s H Pc As)
    (hg : g.method = m) (hn : As.length = n) (hsize : g.locals.size = nL) (hstack : g.stack = As.reverse ++ rest) (hW : 2 * g.monitorRoom + (rest.map fun v => v.category).sum ≤ 8) (hdg : decode cc g.pc = .ok (.invokestatic index, 3)) (hf : cells + mc ≤ R.cells ∧ slots + ms ≤ R.slots) :
    vx_Run p l e R s m args below meth c H locs cells slots mc ms g rest (Qc As.toArray) XC free := by
  have hK : vx_Back l R p e below s args y 3 8 (PreOf R mc ms Pc) (PostOf Qc mc ms free) (vx_Post XC mc ms free) := vx_callBack cw.1 hM hp.1
  obtain ⟨⟨-, -, -, -, -, -, hcode, hini, hy, hlen, hl⟩, hstt⟩ := cw
  obtain ⟨hx, hb, hml, ho, -⟩ := S
  intro T hT X
  rcases vx_callS X hx (bytes := bytes) (maxL := maxL) (ret := ret) ho hl hstt hini hcode hy hK hg (hsize.trans hml.symm) (argsL := As) (rest := rest) (fun sig h => hn.trans (hlen sig h)) hstack hW (by rw [hb]; exact hdg)
    (fun vm₁ hW₁ => ⟨hf.1, hf.2, hp.2 (T.setVm vm₁) hT hW₁⟩) with ⟨v, vm₁, ⟨U', l2, c2, s2⟩, hW₁, X', ⟨g', mk, t, L, e1, e2, hq, h1, hL, h2, h3⟩, st⟩ | ⟨q, vm₁, ⟨U', l2, c2, s2⟩, hW₁, X', ⟨g', mk, t, L, E, ce, e1, e2, hq, hce, hcv, hcl, h1, hL, h2, h3⟩, st⟩
  · dsimp only [Pt.U, Pt.locs, Pt.cells, Pt.slots] at X' e1 e2 h1 h2 h3 st
    subst h1; subst h2; subst h3
    exact Or.inl ⟨v, (T.setVm vm₁).calling g' mk As.toArray, t, U', L, hT, X', hL, e1, e2, hq, st⟩
  · dsimp only [Pt.U, Pt.locs, Pt.cells, Pt.slots] at X' e1 e2 h1 h2 h3 st hcl
    subst h1; subst h2; subst h3
    exact Or.inr ⟨q, (T.setVm vm₁).calling g' mk As.toArray, t, U', L, E, ce, hT, X', hL, e1, e2, hq, hce, hcv, vx_cls hW₁ hcl, st⟩
end Runs
section Rows
variable {p : Program} {l : Launch} {e : Env} {R : Room} {s : State} {m : MethodId} {args : Array Value} {below : List Frame} {meth : Method} {c : Code} {H : Heap} {locs : List Loc} {cells slots : Nat} {Q : State → Prop}
variable {mc ms : Nat} {free : Addr → Prop} {A0 A1 : Nat → Prop} {H0 : Heap} {a : Array Value} {pc : Nat} {ls : Array Slot} {st0 rest : List Value}
theorem vx_keep {st₀ t T' : State} {L : List Loc} (h0 : st₀.heap = H) (e1 : T'.heap = t.heap) (hS : va_S A0 H0 H locs) (hA : ∀ q, q < H.size → A1 q → A0 q) (hf : ∀ q, free q → A0 q) (hL : ∀ q ∈ L, free q.base) (hF : va_F A1 st₀ t) :
    H.size ≤ T'.heap.size ∧ (∀ q : Nat, q < H.size → ¬ A1 q → T'.heap[q]? = H[q]?) ∧ va_S A0 H0 T'.heap (locs ++ L) := by
  obtain ⟨hz, hk⟩ := hF
  rw [h0] at hz hk
  exact ⟨by rw [e1]; exact hz, fun q h1 h2 => by rw [e1]; exact hk q h1 h2,
    ⟨Nat.le_trans hS.1 (by rw [e1]; exact hz), fun q h1 h2 => by rw [e1, hk q (Nat.lt_of_lt_of_le h1 hS.1) (fun z => h2 (hA q (Nat.lt_of_lt_of_le h1 hS.1) z))]; exact hS.2.1 q h1 h2, fun q hq => by
      rcases List.mem_append.mp hq with h | h
      · exact hS.2.2 q h
      · exact hf _ (hL q h)⟩⟩
theorem vx_calli {S SX : Type} {post : Int32 → S → Prop} {px : SX → Prop} {B : S → State → Prop} {BX : String → SX → State → Prop} {AX : Nat → Prop} (hr : vx_Run p l e R s m args below meth c H locs cells slots mc ms (F0 m pc ls st0) rest (va_Qi post B A1 a) (vx_X px BX AX) free) (hS : va_S A0 H0 H locs) (hA : ∀ q, q < H.size → A1 q → A0 q) (hf : ∀ q, free q → A0 q) (hAX : ∀ q, q < H.size → AX q → A0 q)
    (kx : ∀ (E : String) (ce : Cell) (q9 : Addr) (u : SX) (t : State) (H1 : Heap) (locs1 : List Loc), t.heap = H1 → s.vm.Alike t.vm → px u → BX E u t → H.size ≤ H1.size → (∀ q : Nat, q < H.size → ¬ AX q → H1[q]? = H[q]?) → va_S A0 H0 H1 locs1 → H1[q9]? = some ce → ce.vm = .none → s.vm.findClass E = some ce.cls → vx_W p l e R s m args below meth c H1 locs1 (cells + mc) (slots + ms) Q (F0 m pc ls rest) q9)
    (kk : ∀ (r : Int32) (u : S) (t : State) (H1 : Heap) (locs1 : List Loc), t.heap = H1 → s.vm.Alike t.vm → post r u → B u t → H.size ≤ H1.size → (∀ q : Nat, q < H.size → ¬ A1 q → H1[q]? = H[q]?) → va_S A0 H0 H1 locs1 → W p l e R s m args below meth c H1 locs1 (cells + mc) (slots + ms) Q (F0 m (pc + 3) ls (.int r :: rest))) : W p l e R s m args below meth c H locs cells slots Q (F0 m pc ls st0) := by
  intro T hT X
  rcases hr T hT X with ⟨v, st₀, t, T', L, h0, X', hL, e1, e2, ⟨⟨r, u, hv, hp, hb⟩, hF⟩, st⟩ | ⟨q, st₀, t, T', L, E, ce, h0, X', hL, e1, e2, ⟨u, hp, hb, hF⟩, hce, hcv, hcl, st⟩
  · cases hv
    obtain ⟨k1, k2, k3⟩ := vx_keep h0 e1 hS hA hf hL hF
    obtain ⟨t2, a1, b1⟩ := kk r u t T'.heap (locs ++ L) e1.symm (by rw [← e2]; exact X'.warmed.alike) hp hb k1 k2 k3 T' rfl X'
    exact ⟨t2, st t2 a1, b1⟩
  · obtain ⟨k1, k2, k3⟩ := vx_keep h0 e1 hS hAX hf hL hF
    obtain ⟨t2, a1, b1⟩ := kx E ce q u t T'.heap (locs ++ L) e1.symm (by rw [← e2]; exact X'.warmed.alike) hp hb k1 k2 k3 (by rw [e1]; exact hce) hcv hcl T' rfl X'
    exact ⟨t2, st.trans a1, b1⟩
theorem vx_calll {S SX : Type} {post : Int64 → S → Prop} {px : SX → Prop} {B : S → State → Prop} {BX : String → SX → State → Prop} {AX : Nat → Prop} (hr : vx_Run p l e R s m args below meth c H locs cells slots mc ms (F0 m pc ls st0) rest (va_Ql post B A1 a) (vx_X px BX AX) free) (hS : va_S A0 H0 H locs) (hA : ∀ q, q < H.size → A1 q → A0 q) (hf : ∀ q, free q → A0 q) (hAX : ∀ q, q < H.size → AX q → A0 q)
    (kx : ∀ (E : String) (ce : Cell) (q9 : Addr) (u : SX) (t : State) (H1 : Heap) (locs1 : List Loc), t.heap = H1 → s.vm.Alike t.vm → px u → BX E u t → H.size ≤ H1.size → (∀ q : Nat, q < H.size → ¬ AX q → H1[q]? = H[q]?) → va_S A0 H0 H1 locs1 → H1[q9]? = some ce → ce.vm = .none → s.vm.findClass E = some ce.cls → vx_W p l e R s m args below meth c H1 locs1 (cells + mc) (slots + ms) Q (F0 m pc ls rest) q9)
    (kk : ∀ (r : Int64) (u : S) (t : State) (H1 : Heap) (locs1 : List Loc), t.heap = H1 → s.vm.Alike t.vm → post r u → B u t → H.size ≤ H1.size → (∀ q : Nat, q < H.size → ¬ A1 q → H1[q]? = H[q]?) → va_S A0 H0 H1 locs1 → W p l e R s m args below meth c H1 locs1 (cells + mc) (slots + ms) Q (F0 m (pc + 3) ls (.long r :: rest))) : W p l e R s m args below meth c H locs cells slots Q (F0 m pc ls st0) := by
  intro T hT X
  rcases hr T hT X with ⟨v, st₀, t, T', L, h0, X', hL, e1, e2, ⟨⟨r, u, hv, hp, hb⟩, hF⟩, st⟩ | ⟨q, st₀, t, T', L, E, ce, h0, X', hL, e1, e2, ⟨u, hp, hb, hF⟩, hce, hcv, hcl, st⟩
  · cases hv
    obtain ⟨k1, k2, k3⟩ := vx_keep h0 e1 hS hA hf hL hF
    obtain ⟨t2, a1, b1⟩ := kk r u t T'.heap (locs ++ L) e1.symm (by rw [← e2]; exact X'.warmed.alike) hp hb k1 k2 k3 T' rfl X'
    exact ⟨t2, st t2 a1, b1⟩
  · obtain ⟨k1, k2, k3⟩ := vx_keep h0 e1 hS hAX hf hL hF
    obtain ⟨t2, a1, b1⟩ := kx E ce q u t T'.heap (locs ++ L) e1.symm (by rw [← e2]; exact X'.warmed.alike) hp hb k1 k2 k3 (by rw [e1]; exact hce) hcv hcl T' rfl X'
    exact ⟨t2, st.trans a1, b1⟩
theorem vx_callf {S SX : Type} {post : UInt32 → S → Prop} {px : SX → Prop} {B : S → State → Prop} {BX : String → SX → State → Prop} {AX : Nat → Prop} (hr : vx_Run p l e R s m args below meth c H locs cells slots mc ms (F0 m pc ls st0) rest (va_Qf post B A1 a) (vx_X px BX AX) free) (hS : va_S A0 H0 H locs) (hA : ∀ q, q < H.size → A1 q → A0 q) (hf : ∀ q, free q → A0 q) (hAX : ∀ q, q < H.size → AX q → A0 q)
    (kx : ∀ (E : String) (ce : Cell) (q9 : Addr) (u : SX) (t : State) (H1 : Heap) (locs1 : List Loc), t.heap = H1 → s.vm.Alike t.vm → px u → BX E u t → H.size ≤ H1.size → (∀ q : Nat, q < H.size → ¬ AX q → H1[q]? = H[q]?) → va_S A0 H0 H1 locs1 → H1[q9]? = some ce → ce.vm = .none → s.vm.findClass E = some ce.cls → vx_W p l e R s m args below meth c H1 locs1 (cells + mc) (slots + ms) Q (F0 m pc ls rest) q9)
    (kk : ∀ (r : UInt32) (u : S) (t : State) (H1 : Heap) (locs1 : List Loc), t.heap = H1 → s.vm.Alike t.vm → post r u → B u t → H.size ≤ H1.size → (∀ q : Nat, q < H.size → ¬ A1 q → H1[q]? = H[q]?) → va_S A0 H0 H1 locs1 → W p l e R s m args below meth c H1 locs1 (cells + mc) (slots + ms) Q (F0 m (pc + 3) ls (.float r :: rest))) : W p l e R s m args below meth c H locs cells slots Q (F0 m pc ls st0) := by
  intro T hT X
  rcases hr T hT X with ⟨v, st₀, t, T', L, h0, X', hL, e1, e2, ⟨⟨r, u, hv, hp, hb⟩, hF⟩, st⟩ | ⟨q, st₀, t, T', L, E, ce, h0, X', hL, e1, e2, ⟨u, hp, hb, hF⟩, hce, hcv, hcl, st⟩
  · cases hv
    obtain ⟨k1, k2, k3⟩ := vx_keep h0 e1 hS hA hf hL hF
    obtain ⟨t2, a1, b1⟩ := kk r u t T'.heap (locs ++ L) e1.symm (by rw [← e2]; exact X'.warmed.alike) hp hb k1 k2 k3 T' rfl X'
    exact ⟨t2, st t2 a1, b1⟩
  · obtain ⟨k1, k2, k3⟩ := vx_keep h0 e1 hS hAX hf hL hF
    obtain ⟨t2, a1, b1⟩ := kx E ce q u t T'.heap (locs ++ L) e1.symm (by rw [← e2]; exact X'.warmed.alike) hp hb k1 k2 k3 (by rw [e1]; exact hce) hcv hcl T' rfl X'
    exact ⟨t2, st.trans a1, b1⟩
theorem vx_calld {S SX : Type} {post : UInt64 → S → Prop} {px : SX → Prop} {B : S → State → Prop} {BX : String → SX → State → Prop} {AX : Nat → Prop} (hr : vx_Run p l e R s m args below meth c H locs cells slots mc ms (F0 m pc ls st0) rest (va_Qd post B A1 a) (vx_X px BX AX) free) (hS : va_S A0 H0 H locs) (hA : ∀ q, q < H.size → A1 q → A0 q) (hf : ∀ q, free q → A0 q) (hAX : ∀ q, q < H.size → AX q → A0 q)
    (kx : ∀ (E : String) (ce : Cell) (q9 : Addr) (u : SX) (t : State) (H1 : Heap) (locs1 : List Loc), t.heap = H1 → s.vm.Alike t.vm → px u → BX E u t → H.size ≤ H1.size → (∀ q : Nat, q < H.size → ¬ AX q → H1[q]? = H[q]?) → va_S A0 H0 H1 locs1 → H1[q9]? = some ce → ce.vm = .none → s.vm.findClass E = some ce.cls → vx_W p l e R s m args below meth c H1 locs1 (cells + mc) (slots + ms) Q (F0 m pc ls rest) q9)
    (kk : ∀ (r : UInt64) (u : S) (t : State) (H1 : Heap) (locs1 : List Loc), t.heap = H1 → s.vm.Alike t.vm → post r u → B u t → H.size ≤ H1.size → (∀ q : Nat, q < H.size → ¬ A1 q → H1[q]? = H[q]?) → va_S A0 H0 H1 locs1 → W p l e R s m args below meth c H1 locs1 (cells + mc) (slots + ms) Q (F0 m (pc + 3) ls (.double r :: rest))) : W p l e R s m args below meth c H locs cells slots Q (F0 m pc ls st0) := by
  intro T hT X
  rcases hr T hT X with ⟨v, st₀, t, T', L, h0, X', hL, e1, e2, ⟨⟨r, u, hv, hp, hb⟩, hF⟩, st⟩ | ⟨q, st₀, t, T', L, E, ce, h0, X', hL, e1, e2, ⟨u, hp, hb, hF⟩, hce, hcv, hcl, st⟩
  · cases hv
    obtain ⟨k1, k2, k3⟩ := vx_keep h0 e1 hS hA hf hL hF
    obtain ⟨t2, a1, b1⟩ := kk r u t T'.heap (locs ++ L) e1.symm (by rw [← e2]; exact X'.warmed.alike) hp hb k1 k2 k3 T' rfl X'
    exact ⟨t2, st t2 a1, b1⟩
  · obtain ⟨k1, k2, k3⟩ := vx_keep h0 e1 hS hAX hf hL hF
    obtain ⟨t2, a1, b1⟩ := kx E ce q u t T'.heap (locs ++ L) e1.symm (by rw [← e2]; exact X'.warmed.alike) hp hb k1 k2 k3 (by rw [e1]; exact hce) hcv hcl T' rfl X'
    exact ⟨t2, st.trans a1, b1⟩
theorem vx_callv {S SX : Type} {post : S → Prop} {px : SX → Prop} {B : S → State → Prop} {BX : String → SX → State → Prop} {AX : Nat → Prop} (hr : vx_Run p l e R s m args below meth c H locs cells slots mc ms (F0 m pc ls st0) rest (va_Qv post B A1 a) (vx_X px BX AX) free) (hS : va_S A0 H0 H locs) (hA : ∀ q, q < H.size → A1 q → A0 q) (hf : ∀ q, free q → A0 q) (hAX : ∀ q, q < H.size → AX q → A0 q)
    (kx : ∀ (E : String) (ce : Cell) (q9 : Addr) (u : SX) (t : State) (H1 : Heap) (locs1 : List Loc), t.heap = H1 → s.vm.Alike t.vm → px u → BX E u t → H.size ≤ H1.size → (∀ q : Nat, q < H.size → ¬ AX q → H1[q]? = H[q]?) → va_S A0 H0 H1 locs1 → H1[q9]? = some ce → ce.vm = .none → s.vm.findClass E = some ce.cls → vx_W p l e R s m args below meth c H1 locs1 (cells + mc) (slots + ms) Q (F0 m pc ls rest) q9)
    (kk : ∀ (u : S) (t : State) (H1 : Heap) (locs1 : List Loc), t.heap = H1 → s.vm.Alike t.vm → post u → B u t → H.size ≤ H1.size → (∀ q : Nat, q < H.size → ¬ A1 q → H1[q]? = H[q]?) → va_S A0 H0 H1 locs1 → W p l e R s m args below meth c H1 locs1 (cells + mc) (slots + ms) Q (F0 m (pc + 3) ls (rest))) : W p l e R s m args below meth c H locs cells slots Q (F0 m pc ls st0) := by
  intro T hT X
  rcases hr T hT X with ⟨v, st₀, t, T', L, h0, X', hL, e1, e2, ⟨⟨u, hv, hp, hb⟩, hF⟩, st⟩ | ⟨q, st₀, t, T', L, E, ce, h0, X', hL, e1, e2, ⟨u, hp, hb, hF⟩, hce, hcv, hcl, st⟩
  · cases hv
    obtain ⟨k1, k2, k3⟩ := vx_keep h0 e1 hS hA hf hL hF
    obtain ⟨t2, a1, b1⟩ := kk u t T'.heap (locs ++ L) e1.symm (by rw [← e2]; exact X'.warmed.alike) hp hb k1 k2 k3 T' rfl X'
    exact ⟨t2, st t2 a1, b1⟩
  · obtain ⟨k1, k2, k3⟩ := vx_keep h0 e1 hS hAX hf hL hF
    obtain ⟨t2, a1, b1⟩ := kx E ce q u t T'.heap (locs ++ L) e1.symm (by rw [← e2]; exact X'.warmed.alike) hp hb k1 k2 k3 (by rw [e1]; exact hce) hcv hcl T' rfl X'
    exact ⟨t2, st.trans a1, b1⟩
/-- caught by the row x of this method's table; the rows ahead don't take it -/
theorem vx_catch {own name : String} {E : String} {ce : Cell} {q : Addr} (hown : s.vm.findClass own = some m.cls) (pre : List ExceptionTableEntry) (x : ExceptionTableEntry) (suf : List ExceptionTableEntry) (hsplit : c.exceptionTable.toList = pre ++ x :: suf)
    (hpass : ∀ z ∈ pre, covers z pc = false ∨ (z.catchType ≠ 0 ∧ ∃ nm : String, (Cond.classLink own z.catchType nm).before args s = true ∧ va_Nc E nm s)) (hx : covers x pc = true) (h0 : x.catchType ≠ 0)
    (hlink : (Cond.classLink own x.catchType name).before args s = true) (hcast : (Cond.castable E name).before args s = true) (hcell : H[q]? = some ce) (hv : ce.vm = .none) (hcl : s.vm.findClass E = some ce.cls)
    (kk : W p l e R s m args below meth c H locs cells slots Q (F0 m x.handlerPc ls [.ref q])) : vx_W p l e R s m args below meth c H locs cells slots Q (F0 m pc ls rest) q := by
  intro T hT X
  have hpl : e.platform.magicAccessors = ({} : Platform).magicAccessors := by rw [X.admits.platform]
  obtain ⟨c3, c4, hc3, hc4, hasg⟩ := Cond.castable_spec hcast
  cases Option.some.inj (hc3.symm.trans hcl)
  obtain ⟨c5, hc5, hcl5⟩ := Cond.classLink_spec hown hlink e.platform hpl
  cases Option.some.inj (hc4.symm.trans hc5)
  obtain ⟨vm', X', st⟩ := X.thenCaughtThrough q (g := F0 m pc ls rest) rfl (Steps.refl _) (by rw [hT]; exact hcell) (by rw [hv]; rfl) (by obtain ⟨k9, h9, -⟩ := Vm.findClass_spec hcl; exact ⟨k9, h9⟩) pre x suf hsplit
    (fun z hz => by
      rcases hpass z hz with h | ⟨hz0, nm, hl1, hn1⟩
      · exact Or.inl h
      · obtain ⟨c6, hc6, hcl6⟩ := Cond.classLink_spec hown hl1 e.platform hpl
        obtain ⟨a8, b8, h1, h2, h3⟩ := hn1
        cases Option.some.inj (h1.symm.trans hcl)
        cases Option.some.inj (h2.symm.trans hc6)
        exact Or.inr ⟨hz0, _, hcl6, h3⟩) hx (Or.inr ⟨h0, c4, hcl5, hasg⟩)
  obtain ⟨t, a1, b1⟩ := kk (T.setVm vm') hT X'
  exact ⟨t, st.trans a1, b1⟩
end Rows
section Ends
variable {p : Program} {l : Launch} {e : Env} {R : Room} {s : State} {m : MethodId} {args : Array Value} {below : List Frame} {meth : Method} {c : Code} {H : Heap} {locs : List Loc} {cells slots : Nat} {Q : State → Prop}
variable {mc ms : Nat} {free : Addr → Prop} {A0 A1 : Nat → Prop} {H0 : Heap} {a : Array Value} {ls : Array Slot} {st0 rest : List Value}
variable {Qc : Array Value → State → Outcome → State → Prop} {XC : String → State → State → Prop}
/-- what a body that may throw owes at its end -/
def vx_MQ (below : List Frame) (Qc : Array Value → State → Outcome → State → Prop) (XC : String → State → State → Prop) (a : Array Value) (s : State) (mc ms : Nat) (free : Addr → Prop) : State → Prop := fun t =>
  ∃ o, t.status = .running ∧ Ended t below o ∧ vx_Q Qc XC mc ms free a s o t
theorem vx_ret {g : JFrame} {mc ms : Nat} (k : W p l e R s m args below meth c H locs cells slots (MQ below Qc args s mc ms free) g) : W p l e R s m args below meth c H locs cells slots (vx_MQ below Qc XC args s mc ms free) g := by
  intro T hT X
  obtain ⟨t, a1, o, b1, b2, b3, b4⟩ := k T hT X
  exact ⟨t, a1, o, b1, b2, Or.inl ⟨b3, b4⟩⟩
/-- not caught here: it goes on to the caller -/
theorem vx_widen {g : JFrame} {q : Addr} {k n : Nat} (h1 : cells ≤ k) (h2 : slots ≤ n) (kk : vx_W p l e R s m args below meth c H locs k n Q g q) : vx_W p l e R s m args below meth c H locs cells slots Q g q := fun T hT X => kk T hT (stand_widen X h1 h2)
theorem vx_out {pc : Nat} {E : String} {ce : Cell} {q : Addr} {mc ms : Nat} (hout : ∀ x ∈ c.exceptionTable.toList, covers x pc = false) (hlocks : meth.locks = false) (hcell : H[q]? = some ce) (hv : ce.vm = .none) (hcl : s.vm.findClass E = some ce.cls)
    (hx : ∀ t : State, t.heap = H → s.vm.Alike t.vm → XC E s t) (hf : ∀ z ∈ locs, free z.base) (hc : cells ≤ mc) (hs : slots ≤ ms) :
    vx_W p l e R s m args below meth c H locs cells slots (vx_MQ below Qc XC args s mc ms free) (F0 m pc ls rest) q := by
  intro T hT X
  obtain ⟨st1, hrun, hend, hW, hsm⟩ := X.leaveThrown q (g := F0 m pc ls rest) rfl rfl rfl hout hlocks
  have hcell9 : (T.setFrames (.throwing q :: below)).heap[q]? = some ce := by
    show T.heap[q]? = some ce
    rw [hT]; exact hcell
  exact ⟨_, st1, .threw q, hrun, hend, Or.inr ⟨q, rfl, E, ce, locs, hx _ hT hW.alike, hcell9, hv, hcl, hW, hsm.mono hc hs, hf⟩⟩
theorem vx_frame {U : State} {k n : Nat} (h : s.sameButNew ({ U with vm := s.vm } : State) locs k n) : s.heap.size ≤ U.heap.size ∧ ∀ q : Nat, q < s.heap.size → (∀ z ∈ locs, z.base ≠ q) → U.heap[q]? = s.heap[q]? := by
  obtain ⟨-, h2, -, -, -, h6⟩ := h
  refine ⟨h2, fun q hq hz => ?_⟩
  obtain ⟨c9, e1, e2, e3, e4⟩ := h6 q _ (Array.getElem?_eq_getElem hq)
  have hs : c9.slots = (s.heap[q]).slots := Array.ext_getElem? fun i => e4 i fun hm => hz _ hm rfl
  have h9 : c9 = s.heap[q] := by
    rw [hs] at e2
    exact e2
  have e5 : U.heap[q]? = some c9 := e1
  rw [e5, h9, Array.getElem?_eq_getElem hq]
/-- the words of a throw but the four that speak of the heap -/
def vx_no (w : Cond) : Bool := decide (w ≠ .isRef (.static Bundle.tN "UNASSIGNED_STACK" Bundle.steD)) && decide (w ≠ .isRef (.static Bundle.tN "SUPPRESSED_SENTINEL" Bundle.listD)) && decide (w ≠ .laysStatic Bundle.tN "UNASSIGNED_STACK" Bundle.steD) && decide (w ≠ .laysStatic Bundle.tN "SUPPRESSED_SENTINEL" Bundle.listD)
def vx_at0 (own : String) (ic : Nat) (X : String) (names : List String) : List Cond := (Bundle.ownAtoms0 own ic X names).filter vx_no
def vx_atS (own : String) (ic : Nat) (X : String) (names : List String) : List Cond := (Bundle.ownAtoms own ic X names).filter vx_no
/-- a word that the tables alone decide, or a good one -/
def vx_ot (w : Cond) : Bool := w.onTables || goodWord w
theorem vx_ot_at {args a' : Array Value} {s U : State} {w : Cond} (hW : s.WarmedH U.vm) (hvm : s.vm = U.vm) (hg : vx_ot w = true) (h : w.before args s = true) : w.before a' U = true := by
  simp only [vx_ot, Bool.or_eq_true] at hg
  rcases hg with hg | hg
  · exact va_tabs hg hvm h
  · exact word_at hW (good_of_word hg) h
/-- a list's words: the good ones out of the method's own list, the others by premises of their own -/
theorem vx_hat {args : Array Value} {s : State} {L B : List Cond} (h1 : ∀ w ∈ L.filter goodWord, w.before args s = true) (h2 : ∀ w ∈ L.filter (fun w => !goodWord w), w ∈ B) (h3 : ∀ w ∈ B, w.before args s = true) : ∀ w ∈ L, w.before args s = true := by
  intro w hw
  by_cases g : goodWord w = true
  · exact h1 w (List.mem_filter.mpr ⟨hw, g⟩)
  · refine h3 w (h2 w (List.mem_filter.mpr ⟨hw, ?_⟩))
    show (!goodWord w) = true
    cases hgw : goodWord w
    · rfl
    · exact absurd hgw g
theorem vx_c {args : Array Value} {s : State} {w : Cond} {B : List Cond} (h : w.before args s = true) (t : ∀ w ∈ B, w.before args s = true) : ∀ w' ∈ w :: B, w'.before args s = true := fun w' h' => (List.mem_cons.mp h').elim (fun e => by rw [e]; exact h) (t w')
theorem vx_n {args : Array Value} {s : State} : ∀ w ∈ ([] : List Cond), w.before args s = true := fun _ h => nomatch h
theorem vx_own {args : Array Value} {s : State} {L : List Cond} (h1 : ∀ w ∈ L.filter vx_no, w.before args s = true)
    (hU : (Cond.isRef (.static Bundle.tN "UNASSIGNED_STACK" Bundle.steD)).before args s = true) (hN : (Cond.isRef (.static Bundle.tN "SUPPRESSED_SENTINEL" Bundle.listD)).before args s = true)
    (lU : (Cond.laysStatic Bundle.tN "UNASSIGNED_STACK" Bundle.steD).before args s = true) (lN : (Cond.laysStatic Bundle.tN "SUPPRESSED_SENTINEL" Bundle.listD).before args s = true) : ∀ w ∈ L, w.before args s = true := by
  intro w hw
  by_cases e1 : w = .isRef (.static Bundle.tN "UNASSIGNED_STACK" Bundle.steD)
  · rw [e1]; exact hU
  · by_cases e2 : w = .isRef (.static Bundle.tN "SUPPRESSED_SENTINEL" Bundle.listD)
    · rw [e2]; exact hN
    · by_cases e3 : w = .laysStatic Bundle.tN "UNASSIGNED_STACK" Bundle.steD
      · rw [e3]; exact lU
      · by_cases e4 : w = .laysStatic Bundle.tN "SUPPRESSED_SENTINEL" Bundle.listD
        · rw [e4]; exact lN
        · exact h1 w (List.mem_filter.mpr ⟨hw, by unfold vx_no; rw [decide_eq_true e1, decide_eq_true e2, decide_eq_true e3, decide_eq_true e4]; rfl⟩)
/-- where a static field lies, its class's statics cell in H -/
def vx_L (C n d : String) (A : Nat → Prop) (U : State) (H : Heap) : Prop := ∃ (c : ClassId) (k : Class) (i : Nat) (f : Field) (a : Nat) (cell : Cell), U.vm.findClass C = some c ∧ U.fieldFound? C n d = some (c, k, i, f) ∧ f.isStatic = true ∧ k.statics = some a ∧ H[a]? = some cell ∧ cell.vm.isStatics = true ∧ cell.cls = c ∧ f.slot < cell.slots.size ∧ k.staticTypes[f.slot]? = some f.type ∧ ¬ A a
theorem vx_L.moved {C n d : String} {A : Nat → Prop} {u U : State} {H : Heap} (hvm : u.vm.Alike U.vm) (h : vx_L C n d A u H) : vx_L C n d A U H := by
  obtain ⟨c, k, i, f, a, cell, h1, h2, h3, h4, h5, h6, h7, h8, h9, h10⟩ := h
  obtain ⟨k', hi', he⟩ := State.fieldFound?_setVm hvm h2
  exact ⟨c, k', i, f, a, cell, by rw [hvm.findClass]; exact h1, hi', h3, by rw [he]; exact h4, h5, h6, h7, h8, by rw [he]; exact h9, h10⟩
theorem vx_L.kept {C n d : String} {A : Nat → Prop} {U : State} {H H1 : Heap} (h : vx_L C n d A U H) (hq : ∀ a : Nat, a < H.size → ¬ A a → H1[a]? = H[a]?) : vx_L C n d A U H1 := by
  obtain ⟨c, k, i, f, a, cell, h1, h2, h3, h4, h5, h6, h7, h8, h9, h10⟩ := h
  exact ⟨c, k, i, f, a, cell, h1, h2, h3, h4, by rw [hq a (Array.getElem?_eq_some_iff.mp h5).1 h10]; exact h5, h6, h7, h8, h9, h10⟩
theorem vx_L.narrow {C n d : String} {A B : Nat → Prop} {U : State} {H : Heap} (h : vx_L C n d A U H) (hAB : ∀ q, B q → A q) : vx_L C n d B U H := by
  obtain ⟨c, k, i, f, a, cell, h1, h2, h3, h4, h5, h6, h7, h8, h9, h10⟩ := h
  exact ⟨c, k, i, f, a, cell, h1, h2, h3, h4, h5, h6, h7, h8, h9, fun z => h10 (hAB _ z)⟩
theorem vx_L.word {C n d : String} {A : Nat → Prop} {s : State} {args : Array Value} (h : vx_L C n d A s s.heap) : (Cond.laysStatic C n d).before args s = true := by
  obtain ⟨c, k, i, f, a, cell, h1, h2, h3, h4, h5, h6, h7, h8, h9, -⟩ := h
  show (Cond.laysStatic C n d).holds args s none s [] = true
  exact Cond.laysStatic_of h1 h2 h3 h4 h5 h6 h7 h8 h9
/-- .. and what it holds: null or some reference -/
def vx_Zq (C n d : String) (A : Nat → Prop) (U : State) (H : Heap) : Prop := va_Zq C n d A U H ∧ vx_L C n d A U H
theorem vx_Zq.moved {C n d : String} {A : Nat → Prop} {u U : State} {H : Heap} (hvm : u.vm.Alike U.vm) (h : vx_Zq C n d A u H) : vx_Zq C n d A U H := ⟨va_Zq.moved hvm h.1, vx_L.moved hvm h.2⟩
theorem vx_Zq.kept {C n d : String} {A : Nat → Prop} {U : State} {H H1 : Heap} (h : vx_Zq C n d A U H) (hq : ∀ a : Nat, a < H.size → ¬ A a → H1[a]? = H[a]?) : vx_Zq C n d A U H1 := ⟨va_Zq.kept h.1 hq, vx_L.kept h.2 hq⟩
theorem vx_Zq.narrow {C n d : String} {A B : Nat → Prop} {U : State} {H : Heap} (h : vx_Zq C n d A U H) (hAB : ∀ q, B q → A q) : vx_Zq C n d B U H := ⟨va_Zq.narrow h.1 hAB, vx_L.narrow h.2 hAB⟩
theorem vx_Zqof {args : Array Value} {s : State} {C n d : String} {A : Nat → Prop} (hl : (Cond.laysStatic C n d).before args s = true) (hini : (Cond.initialized C).before args s = true) (h : (Cond.isRef (.static C n d)).before args s = true) (hA : ∀ a : Nat, a < s.heap.size → ¬ A a) : vx_Zq C n d A s s.heap := by
  refine ⟨va_Zqof hl hini h hA, ?_⟩
  obtain ⟨c, k, i, f, a, cell, h1, h2, h3, h4, h5, h6, h7, h8, h9⟩ := Cond.laysStatic_spec hl
  exact ⟨c, k, i, f, a, cell, h1, h2, h3, h4, h5, h6, h7, h8, h9, hA a (Array.getElem?_eq_some_iff.mp h5).1⟩
theorem vx_isRef {C n d : String} {v : Value} {A : Nat → Prop} {s : State} {args : Array Value} (h : va_Z C n d v A s s.heap) (hv : v.isRef = true) : (Cond.isRef (.static C n d)).before args s = true := by
  obtain ⟨cf, kf, fi, f, a, cell, h1, h2, h3, h4, h5, h6, h7, -⟩ := h
  have he : (Term.static C n d).eval args s none [] s = some v := by
    simp [Term.eval, State.fieldNamed?, h1, h2, h4, h5, h6, h7]
  simp only [Cond.before, Cond.holds, Cond.value, he]
  cases v <;> simp_all [Value.isRef]
theorem vx_isRefq {C n d : String} {A : Nat → Prop} {s : State} {args : Array Value} (h : va_Zq C n d A s s.heap) : (Cond.isRef (.static C n d)).before args s = true := by
  rcases h with h | ⟨t, h⟩
  · exact vx_isRef h rfl
  · exact vx_isRef h rfl
/-- the same frame, seen from here: as if the method were called anew in this heap -/
theorem vx_rebase {T : State} (X : Stand p l e R s m args below meth c T locs cells slots) {R' : Room} (hf : R'.frames ≤ R.frames) (hl : R'.locals ≤ R.locals) (hc : cells + R'.cells ≤ R.cells) (hs : slots + R'.slots ≤ R.slots) :
    Stand p l e R' ((T.setVm s.vm).setFrames (.invoking m args :: below)) m args below meth c T [] 0 0 := by
  have htop : (T.setVm s.vm).topJava?.isSome := X.here.top
  have hF : ((T.setVm s.vm).setFrames (.invoking m args :: below)).frames = .invoking m args :: below := State.frames_setFrames _ (State.cur_lt_of_top htop)
  obtain ⟨g₀, hg0⟩ := Option.isSome_iff_exists.mp htop
  obtain ⟨r, hr⟩ := State.topJava?_eq_some.mp hg0
  have hl9 : e.platform.stackLimits (T.setVm s.vm).me = e.platform.stackLimits s.me := X.limits
  have hb9 : (T.setVm s.vm).me.stackBytes = s.me.stackBytes := X.bytes
  refine ⟨X.admits, X.cas, X.clock, hF, ?_, X.hears, X.method, X.code, X.here, X.tail, X.warmed, ?_, ?_, ?_⟩
  · have h := X.room
    have hU : ((T.setVm s.vm).setFrames (.invoking m args :: below)).localsInUse = s.localsInUse := by
      rw [State.localsInUse_invoking hF (meth := meth) (c := c) X.method X.code, State.localsInUse_invoking X.frames X.method X.code]
    simp only [State.hasRoom, Bool.and_eq_true, decide_eq_true_eq] at h ⊢
    obtain ⟨⟨⟨⟨h1, h2, h3, h4, h5, h6⟩, h7⟩, h8⟩, h9⟩ := h
    rw [X.frames, List.length_cons] at h2 h3
    have q1 := X.heapSize
    have q2 := X.used
    simp only [hF, hU, List.length_cons, State.stackLimits_setFrames, State.stackBytes_setFrames, hl9, hb9]
    refine ⟨⟨⟨⟨by omega, by omega, by omega, by omega, by omega, h6⟩, ?_⟩, ?_⟩, X.book⟩
    · show T.heap.size + R'.cells ≤ e.platform.maxCells
      omega
    · show T.slotsUsed + R'.slots ≤ e.platform.maxSlots
      omega
  · rw [State.stackLimits_setFrames]; rfl
  · rw [State.stackBytes_setFrames]; rfl
  · refine ⟨?_, Nat.le_refl _, Nat.le_refl _, ?_, ?_, fun a c9 h9 => ⟨c9, h9, rfl, rfl, fun _ _ => rfl⟩⟩
    · obtain ⟨t, ht, -⟩ := State.frames_cons hr
      show T.setVm s.vm = { ((T.setVm s.vm).setFrames (.invoking m args :: below)).setFrames (T.setVm s.vm).frames with heap := T.heap, slotsUsed := T.slotsUsed }
      rw [State.setFrames_setFrames, State.setFrames_self ht]
      rfl
    · show T.slotsUsed = T.slotsUsed + ((T.heap.toList.drop T.heap.size).map (·.slots.size)).sum
      rw [List.drop_eq_nil_of_le (Nat.le_of_eq Array.length_toList)]
      rfl
    · show ((T.heap.toList.drop T.heap.size).map (·.slots.size)).sum ≤ 0
      rw [List.drop_eq_nil_of_le (Nat.le_of_eq Array.length_toList)]
      exact Nat.le_refl _
/-- 'throw new E()': new; dup; invokespecial; athrow -/
theorem vx_throw0 {cc : ByteArray} {pc : Nat} (hexec : p.tables.exec = Jvm.exec) (hb : c.code = cc) (hl : l.stackTraces = false) {own cls : String} {names : List String} {ik ic mc ms : Nat} {A : Nat → Prop}
    (hown : s.vm.findClass own = some m.cls) (hcls : Bundle.fit cls = true) (hnames : ∀ n ∈ names, Bundle.fit n = true)
    (hk : (Cond.classLink own ik cls).before args s = true) (hini : (Cond.initialized cls).before args s = true) (hat : ∀ w ∈ vx_at0 own ic cls names, w.before args s = true)
    (hgood : ∀ w ∈ Cond.classLink own ik cls :: Cond.initialized cls :: vx_at0 own ic cls names, vx_ot w = true)
    (hU : vx_Zq Bundle.tN "UNASSIGNED_STACK" Bundle.steD A s s.heap) (hN : vx_Zq Bundle.tN "SUPPRESSED_SENTINEL" Bundle.listD A s s.heap) (hS : va_S A s.heap H locs) (hsize : ls.size = c.maxLocals)
    (d0 : decode cc pc = .ok (.new ik, 3)) (d3 : decode cc (pc + 3) = .ok (.dup, 1)) (d4 : decode cc (pc + 4) = .ok (.invokespecial ic, 3)) (d7 : decode cc (pc + 7) = .ok (.athrow, 1))
    (hout : ∀ x ∈ c.exceptionTable.toList, covers x (pc + 7) = false)
    (hRframes : names.length + 3 < R.frames) (hRlocals : (rest.map fun v => v.category).sum + (13 * (names.length + 1) + 42) ≤ R.locals) (hRcells : cells + 1 ≤ R.cells) (hRslots : slots + 6 ≤ R.slots) (hlocks : meth.locks = false)
    (hx : ∀ t : State, s.vm.Alike t.vm → H.size ≤ t.heap.size → (∀ q : Nat, q < H.size → t.heap[q]? = H[q]?) → XC cls s t)
    (hf : ∀ z ∈ locs, free z.base) (hc : cells + 1 ≤ mc) (hs : slots + 6 ≤ ms) :
    W p l e R s m args below meth c H locs cells slots (vx_MQ below Qc XC args s mc ms free) (F0 m pc ls rest) := by
  intro T hT X
  have htr : e.platform.stackTraces = false := (show e.platform.stackTraces = l.stackTraces by rw [X.admits.platform]).trans hl
  have Y := vx_rebase X (R' := { frames := R.frames, locals := R.locals, cells := 1, slots := 6 }) (Nat.le_refl _) (Nat.le_refl _) hRcells hRslots
  obtain ⟨s', hA⟩ : ∃ z, z = (T.setVm s.vm).setFrames (.invoking m args :: below) := ⟨_, rfl⟩
  rw [← hA] at Y
  have hvm : s'.vm = s.vm := by rw [hA]; rfl
  have hhp : s'.heap = H := by rw [hA]; exact hT
  have hW0 : s.WarmedH s'.vm := by rw [hvm]; exact State.WarmedH.refl s
  have hat' : ∀ w ∈ vx_at0 own ic cls names, w.before args s' = true := fun w hw => vx_ot_at hW0 hvm.symm (hgood w (List.mem_cons_of_mem _ (List.mem_cons_of_mem _ hw))) (hat w hw)
  have hk' : (Cond.classLink own ik cls).before args s' = true := vx_ot_at hW0 hvm.symm (hgood _ List.mem_cons_self) hk
  have hini' : (Cond.initialized cls).before args s' = true := vx_ot_at hW0 hvm.symm (hgood _ (List.mem_cons_of_mem _ List.mem_cons_self)) hini
  have hU' : vx_Zq Bundle.tN "UNASSIGNED_STACK" Bundle.steD A s' s'.heap := by rw [hhp]; exact vx_Zq.moved hW0.alike (hU.kept hS.2.1)
  have hN' : vx_Zq Bundle.tN "SUPPRESSED_SENTINEL" Bundle.listD A s' s'.heap := by rw [hhp]; exact vx_Zq.moved hW0.alike (hN.kept hS.2.1)
  have h : ∀ w ∈ Bundle.ownAtoms0 own ic cls names, w.before args s' = true := vx_own hat' (vx_isRefq hU'.1) (vx_isRefq hN'.1) hU'.2.word hN'.2.word
  have hown' : s'.vm.findClass own = some m.cls := by rw [hvm]; exact hown
  have hins : (Cond.instantiable cls 6).before args s' = true := h _ (by simp [Bundle.ownAtoms0])
  obtain ⟨vm₁, cX, kX, hfX, hkX, -, -, X₁, st1⟩ := Y.newCold hexec (own := own) (C := cls) (index := ik) (n := 6) hown' hk' hins hini'
    (g := F0 m pc ls rest) rfl (by rw [hb]; exact d0) (Nat.le_refl _) (Nat.le_refl _)
  generalize hT1 : (T.setVm vm₁).pushCell { cls := cX, slots := kX.instanceTypes.map defaultValue, vm := .none } = T1 at X₁ st1
  have hcat : (Value.ref T.heap.size).category = 1 := rfl
  have hcellA : T1.heap[T.heap.size]? = some (freshCell cX kX) := by rw [← hT1]; exact State.heap_pushCell_size _ _
  have d3' : decode c.code (pc + 3) = .ok (.dup, 1) := by rw [hb]; exact d3
  obtain ⟨U, hsteps, hrun, hend, hW, hsame, ce, hce, hO⟩ := X₁.ctorThrow0 hexec htr (own := own) (cls := cls) (names := names) (ic := ic) hown' hcls hnames h (fun x hx => nomatch hx) hfX hkX hcellA (by rw [hhp, hT]; exact Nat.le_refl _)
    (g := { method := m, pc := pc + 4, locals := ls, stack := .ref T.heap.size :: .ref T.heap.size :: rest, locked := none }) rfl hsize rfl rfl (rest := rest) rfl
    (by rw [hb]; exact d4) (by rw [hb]; exact d7) hout hRframes (by simp only [List.map_cons, List.sum_cons, hcat]; omega) hlocks
  obtain ⟨f1, f2⟩ := vx_frame hsame
  rw [hhp] at f1 f2
  have hWs : s.WarmedH U.vm := State.WarmedH.trans hW0 hW
  have hcl : s.vm.findClass cls = some ce.cls := by
    have h9 := hO.cls
    rw [hvm] at h9
    exact h9
  have hall : s.sameButNew ({ U with vm := s.vm } : State) locs mc ms := by
    subst hA
    obtain ⟨e1, e2⟩ := hsame
    rw [State.setFrames_setFrames] at e1
    have h2 : (T.setVm s.vm).sameButNew ({ U with vm := s.vm } : State) [] (0 + 1) (0 + 6) := ⟨e1, e2⟩
    have h3 := X.same.trans h2
    rw [List.append_nil] at h3
    exact h3.mono hc hs
  refine ⟨U, ?_, .threw T.heap.size, hrun, hend, Or.inr ⟨T.heap.size, rfl, cls, ce, locs, hx U hWs.alike f1 (fun q hq => f2 q hq (fun z hz => nomatch hz)), hce, hO.vm, hcl, hWs, hall, hf⟩⟩
  refine st1 _ ?_
  show Steps p.tables e below (T1.setTop { method := m, pc := pc + 3, locals := ls, stack := .ref T.heap.size :: rest, locked := none }) _
  jvm_step X₁.here [X₁.here.top, hexec, d3', Value.category]
  exact hsteps
/-- 'throw new E("text")': new; dup; ldc; invokespecial; athrow -/
theorem vx_throwS {cc : ByteArray} {pc : Nat} (hexec : p.tables.exec = Jvm.exec) (hb : c.code = cc) (hl : l.stackTraces = false) {own cls text : String} {names : List String} {ik is ic mc ms sa : Nat} {A : Nat → Prop}
    (hown : s.vm.findClass own = some m.cls) (hcls : Bundle.fit cls = true) (hnames : ∀ n ∈ names, Bundle.fit n = true)
    (hk : (Cond.classLink own ik cls).before args s = true) (hini : (Cond.initialized cls).before args s = true) (hstr : vk_R own is text sa s) (hat : ∀ w ∈ vx_atS own ic cls names, w.before args s = true)
    (hgood : ∀ w ∈ Cond.classLink own ik cls :: Cond.initialized cls :: vx_atS own ic cls names, vx_ot w = true)
    (hU : vx_Zq Bundle.tN "UNASSIGNED_STACK" Bundle.steD A s s.heap) (hN : vx_Zq Bundle.tN "SUPPRESSED_SENTINEL" Bundle.listD A s s.heap) (hS : va_S A s.heap H locs) (hsize : ls.size = c.maxLocals)
    (d0 : decode cc pc = .ok (.new ik, 3)) (d3 : decode cc (pc + 3) = .ok (.dup, 1)) (d4 : decode cc (pc + 4) = .ok (.ldc is, 2)) (d6 : decode cc (pc + 6) = .ok (.invokespecial ic, 3)) (d9 : decode cc (pc + 9) = .ok (.athrow, 1))
    (hout : ∀ x ∈ c.exceptionTable.toList, covers x (pc + 9) = false)
    (hRframes : names.length + 3 < R.frames) (hRlocals : (rest.map fun v => v.category).sum + (13 * (names.length + 1) + 43) ≤ R.locals) (hRcells : cells + 1 ≤ R.cells) (hRslots : slots + 6 ≤ R.slots) (hlocks : meth.locks = false)
    (hx : ∀ t : State, s.vm.Alike t.vm → H.size ≤ t.heap.size → (∀ q : Nat, q < H.size → t.heap[q]? = H[q]?) → XC cls s t)
    (hf : ∀ z ∈ locs, free z.base) (hc : cells + 1 ≤ mc) (hs : slots + 6 ≤ ms) :
    W p l e R s m args below meth c H locs cells slots (vx_MQ below Qc XC args s mc ms free) (F0 m pc ls rest) := by
  intro T hT X
  have htr : e.platform.stackTraces = false := (show e.platform.stackTraces = l.stackTraces by rw [X.admits.platform]).trans hl
  have Y := vx_rebase X (R' := { frames := R.frames, locals := R.locals, cells := 1, slots := 6 }) (Nat.le_refl _) (Nat.le_refl _) hRcells hRslots
  obtain ⟨s', hA⟩ : ∃ z, z = (T.setVm s.vm).setFrames (.invoking m args :: below) := ⟨_, rfl⟩
  rw [← hA] at Y
  have hvm : s'.vm = s.vm := by rw [hA]; rfl
  have hhp : s'.heap = H := by rw [hA]; exact hT
  have hW0 : s.WarmedH s'.vm := by rw [hvm]; exact State.WarmedH.refl s
  have hat' : ∀ w ∈ vx_atS own ic cls names, w.before args s' = true := fun w hw => vx_ot_at hW0 hvm.symm (hgood w (List.mem_cons_of_mem _ (List.mem_cons_of_mem _ hw))) (hat w hw)
  have hk' : (Cond.classLink own ik cls).before args s' = true := vx_ot_at hW0 hvm.symm (hgood _ List.mem_cons_self) hk
  have hini' : (Cond.initialized cls).before args s' = true := vx_ot_at hW0 hvm.symm (hgood _ (List.mem_cons_of_mem _ List.mem_cons_self)) hini
  have hU' : vx_Zq Bundle.tN "UNASSIGNED_STACK" Bundle.steD A s' s'.heap := by rw [hhp]; exact vx_Zq.moved hW0.alike (hU.kept hS.2.1)
  have hN' : vx_Zq Bundle.tN "SUPPRESSED_SENTINEL" Bundle.listD A s' s'.heap := by rw [hhp]; exact vx_Zq.moved hW0.alike (hN.kept hS.2.1)
  have h : ∀ w ∈ Bundle.ownAtoms own ic cls names, w.before args s' = true := vx_own hat' (vx_isRefq hU'.1) (vx_isRefq hN'.1) hU'.2.word hN'.2.word
  have hown' : s'.vm.findClass own = some m.cls := by rw [hvm]; exact hown
  have hins : (Cond.instantiable cls 6).before args s' = true := h _ (by simp [Bundle.ownAtoms])
  obtain ⟨vm₁, cX, kX, hfX, hkX, -, -, X₁, st1⟩ := Y.newCold hexec (own := own) (C := cls) (index := ik) (n := 6) hown' hk' hins hini'
    (g := F0 m pc ls rest) rfl (by rw [hb]; exact d0) (Nat.le_refl _) (Nat.le_refl _)
  generalize hT1 : (T.setVm vm₁).pushCell { cls := cX, slots := kX.instanceTypes.map defaultValue, vm := .none } = T1 at X₁ st1
  have hcat : (Value.ref T.heap.size).category = 1 := rfl
  have hcellA : T1.heap[T.heap.size]? = some (freshCell cX kX) := by rw [← hT1]; exact State.heap_pushCell_size _ _
  have d3' : decode c.code (pc + 3) = .ok (.dup, 1) := by rw [hb]; exact d3
  have d4' : decode c.code (pc + 4) = .ok (.ldc is, 2) := by rw [hb]; exact d4
  have hstr' : vk_R own is text sa s' := vk_R.warm hW0 hstr
  obtain ⟨U, hsteps, hrun, hend, hW, hsame, ce, hce, hO⟩ := X₁.ctorThrowS hexec htr (own := own) (cls := cls) (names := names) (ic := ic) hown' hcls hnames h (fun x hx => nomatch hx) hfX hkX hcellA (by rw [hhp, hT]; exact Nat.le_refl _) (msg := .ref sa) rfl
    (g := { method := m, pc := pc + 6, locals := ls, stack := .ref sa :: .ref T.heap.size :: .ref T.heap.size :: rest, locked := none }) rfl hsize rfl rfl (rest := rest) rfl
    (by rw [hb]; exact d6) (by rw [hb]; exact d9) hout hRframes (by simp only [List.map_cons, List.sum_cons, hcat]; omega) hlocks
  obtain ⟨f1, f2⟩ := vx_frame hsame
  rw [hhp] at f1 f2
  have hWs : s.WarmedH U.vm := State.WarmedH.trans hW0 hW
  have hcl : s.vm.findClass cls = some ce.cls := by
    have h9 := hO.cls
    rw [hvm] at h9
    exact h9
  have hall : s.sameButNew ({ U with vm := s.vm } : State) locs mc ms := by
    subst hA
    obtain ⟨e1, e2⟩ := hsame
    rw [State.setFrames_setFrames] at e1
    have h2 : (T.setVm s.vm).sameButNew ({ U with vm := s.vm } : State) [] (0 + 1) (0 + 6) := ⟨e1, e2⟩
    have h3 := X.same.trans h2
    rw [List.append_nil] at h3
    exact h3.mono hc hs
  refine ⟨U, ?_, .threw T.heap.size, hrun, hend, Or.inr ⟨T.heap.size, rfl, cls, ce, locs, hx U hWs.alike f1 (fun q hq => f2 q hq (fun z hz => nomatch hz)), hce, hO.vm, hcl, hWs, hall, hf⟩⟩
  refine st1 _ ?_
  show Steps p.tables e below (T1.setTop { method := m, pc := pc + 3, locals := ls, stack := .ref T.heap.size :: rest, locked := none }) _
  jvm_step X₁.here [X₁.here.top, hexec, d3', Value.category]
  exact X₁.ldcString hexec (own := own) (text := text) (index := is) (a := sa) hown' hstr'.1 hstr'.2
    (g := { method := m, pc := pc + 4, locals := ls, stack := .ref T.heap.size :: .ref T.heap.size :: rest, locked := none }) rfl d4' _ hsteps
/-- 'throw new E("text")', the text by a wide index -/
theorem vx_throwSW {cc : ByteArray} {pc : Nat} (hexec : p.tables.exec = Jvm.exec) (hb : c.code = cc) (hl : l.stackTraces = false) {own cls text : String} {names : List String} {ik is ic mc ms sa : Nat} {A : Nat → Prop}
    (hown : s.vm.findClass own = some m.cls) (hcls : Bundle.fit cls = true) (hnames : ∀ n ∈ names, Bundle.fit n = true)
    (hk : (Cond.classLink own ik cls).before args s = true) (hini : (Cond.initialized cls).before args s = true) (hstr : vk_R own is text sa s) (hat : ∀ w ∈ vx_atS own ic cls names, w.before args s = true)
    (hgood : ∀ w ∈ Cond.classLink own ik cls :: Cond.initialized cls :: vx_atS own ic cls names, vx_ot w = true)
    (hU : vx_Zq Bundle.tN "UNASSIGNED_STACK" Bundle.steD A s s.heap) (hN : vx_Zq Bundle.tN "SUPPRESSED_SENTINEL" Bundle.listD A s s.heap) (hS : va_S A s.heap H locs) (hsize : ls.size = c.maxLocals)
    (d0 : decode cc pc = .ok (.new ik, 3)) (d3 : decode cc (pc + 3) = .ok (.dup, 1)) (d4 : decode cc (pc + 4) = .ok (.ldc_w is, 3)) (d7 : decode cc (pc + 7) = .ok (.invokespecial ic, 3)) (d10 : decode cc (pc + 10) = .ok (.athrow, 1))
    (hout : ∀ x ∈ c.exceptionTable.toList, covers x (pc + 10) = false)
    (hRframes : names.length + 3 < R.frames) (hRlocals : (rest.map fun v => v.category).sum + (13 * (names.length + 1) + 43) ≤ R.locals) (hRcells : cells + 1 ≤ R.cells) (hRslots : slots + 6 ≤ R.slots) (hlocks : meth.locks = false)
    (hx : ∀ t : State, s.vm.Alike t.vm → H.size ≤ t.heap.size → (∀ q : Nat, q < H.size → t.heap[q]? = H[q]?) → XC cls s t)
    (hf : ∀ z ∈ locs, free z.base) (hc : cells + 1 ≤ mc) (hs : slots + 6 ≤ ms) :
    W p l e R s m args below meth c H locs cells slots (vx_MQ below Qc XC args s mc ms free) (F0 m pc ls rest) := by
  intro T hT X
  have htr : e.platform.stackTraces = false := (show e.platform.stackTraces = l.stackTraces by rw [X.admits.platform]).trans hl
  have Y := vx_rebase X (R' := { frames := R.frames, locals := R.locals, cells := 1, slots := 6 }) (Nat.le_refl _) (Nat.le_refl _) hRcells hRslots
  obtain ⟨s', hA⟩ : ∃ z, z = (T.setVm s.vm).setFrames (.invoking m args :: below) := ⟨_, rfl⟩
  rw [← hA] at Y
  have hvm : s'.vm = s.vm := by rw [hA]; rfl
  have hhp : s'.heap = H := by rw [hA]; exact hT
  have hW0 : s.WarmedH s'.vm := by rw [hvm]; exact State.WarmedH.refl s
  have hat' : ∀ w ∈ vx_atS own ic cls names, w.before args s' = true := fun w hw => vx_ot_at hW0 hvm.symm (hgood w (List.mem_cons_of_mem _ (List.mem_cons_of_mem _ hw))) (hat w hw)
  have hk' : (Cond.classLink own ik cls).before args s' = true := vx_ot_at hW0 hvm.symm (hgood _ List.mem_cons_self) hk
  have hini' : (Cond.initialized cls).before args s' = true := vx_ot_at hW0 hvm.symm (hgood _ (List.mem_cons_of_mem _ List.mem_cons_self)) hini
  have hU' : vx_Zq Bundle.tN "UNASSIGNED_STACK" Bundle.steD A s' s'.heap := by rw [hhp]; exact vx_Zq.moved hW0.alike (hU.kept hS.2.1)
  have hN' : vx_Zq Bundle.tN "SUPPRESSED_SENTINEL" Bundle.listD A s' s'.heap := by rw [hhp]; exact vx_Zq.moved hW0.alike (hN.kept hS.2.1)
  have h : ∀ w ∈ Bundle.ownAtoms own ic cls names, w.before args s' = true := vx_own hat' (vx_isRefq hU'.1) (vx_isRefq hN'.1) hU'.2.word hN'.2.word
  have hown' : s'.vm.findClass own = some m.cls := by rw [hvm]; exact hown
  have hins : (Cond.instantiable cls 6).before args s' = true := h _ (by simp [Bundle.ownAtoms])
  obtain ⟨vm₁, cX, kX, hfX, hkX, -, -, X₁, st1⟩ := Y.newCold hexec (own := own) (C := cls) (index := ik) (n := 6) hown' hk' hins hini'
    (g := F0 m pc ls rest) rfl (by rw [hb]; exact d0) (Nat.le_refl _) (Nat.le_refl _)
  generalize hT1 : (T.setVm vm₁).pushCell { cls := cX, slots := kX.instanceTypes.map defaultValue, vm := .none } = T1 at X₁ st1
  have hcat : (Value.ref T.heap.size).category = 1 := rfl
  have hcellA : T1.heap[T.heap.size]? = some (freshCell cX kX) := by rw [← hT1]; exact State.heap_pushCell_size _ _
  have d3' : decode c.code (pc + 3) = .ok (.dup, 1) := by rw [hb]; exact d3
  have d4' : decode c.code (pc + 4) = .ok (.ldc_w is, 3) := by rw [hb]; exact d4
  have hstr' : vk_R own is text sa s' := vk_R.warm hW0 hstr
  obtain ⟨U, hsteps, hrun, hend, hW, hsame, ce, hce, hO⟩ := X₁.ctorThrowS hexec htr (own := own) (cls := cls) (names := names) (ic := ic) hown' hcls hnames h (fun x hx => nomatch hx) hfX hkX hcellA (by rw [hhp, hT]; exact Nat.le_refl _) (msg := .ref sa) rfl
    (g := { method := m, pc := pc + 7, locals := ls, stack := .ref sa :: .ref T.heap.size :: .ref T.heap.size :: rest, locked := none }) rfl hsize rfl rfl (rest := rest) rfl
    (by rw [hb]; exact d7) (by rw [hb]; exact d10) hout hRframes (by simp only [List.map_cons, List.sum_cons, hcat]; omega) hlocks
  obtain ⟨f1, f2⟩ := vx_frame hsame
  rw [hhp] at f1 f2
  have hWs : s.WarmedH U.vm := State.WarmedH.trans hW0 hW
  have hcl : s.vm.findClass cls = some ce.cls := by
    have h9 := hO.cls
    rw [hvm] at h9
    exact h9
  have hall : s.sameButNew ({ U with vm := s.vm } : State) locs mc ms := by
    subst hA
    obtain ⟨e1, e2⟩ := hsame
    rw [State.setFrames_setFrames] at e1
    have h2 : (T.setVm s.vm).sameButNew ({ U with vm := s.vm } : State) [] (0 + 1) (0 + 6) := ⟨e1, e2⟩
    have h3 := X.same.trans h2
    rw [List.append_nil] at h3
    exact h3.mono hc hs
  refine ⟨U, ?_, .threw T.heap.size, hrun, hend, Or.inr ⟨T.heap.size, rfl, cls, ce, locs, hx U hWs.alike f1 (fun q hq => f2 q hq (fun z hz => nomatch hz)), hce, hO.vm, hcl, hWs, hall, hf⟩⟩
  refine st1 _ ?_
  show Steps p.tables e below (T1.setTop { method := m, pc := pc + 3, locals := ls, stack := .ref T.heap.size :: rest, locked := none }) _
  jvm_step X₁.here [X₁.here.top, hexec, d3', Value.category]
  exact X₁.ldcStringW hexec (own := own) (text := text) (index := is) (a := sa) hown' hstr'.1 hstr'.2
    (g := { method := m, pc := pc + 4, locals := ls, stack := .ref T.heap.size :: .ref T.heap.size :: rest, locked := none }) rfl d4' _ hsteps
end Ends
section Bodies
variable {l : Launch}
theorem vx_ofW {y : MethodName} {ws ws' : List Cond} {rm : Room} {Pc : Array Value → State → Prop} {Qc : Array Value → State → Outcome → State → Prop} {XC : String → State → State → Prop} {mc ms : Nat} {free : Addr → Prop} {cc : ByteArray} {maxL : Nat} {ret : Option FieldType}
    (hy : plainName y.cls = true) (hw : ws = Cond.code y cc maxL ret :: ws')
    (body : ∀ p e s m args below meth c s₁, BodyLoose p l y (headSpec ws rm) cc maxL ret e s m args below meth c s₁ → c.maxLocals = maxL → (∀ x ∈ c.exceptionTable.toList, False) → Pc args s →
      W p l e (headSpec ws rm).room s m args below meth c s.heap [] 0 0 (vx_MQ below Qc XC args s mc ms free) (entryFrame m args maxL)) : vx_Met l y ws rm Pc Qc XC mc ms free := by
  refine MetFree.of_bodyS (code := cc) (maxLocals := maxL) (ret := ret) hy ?_ ?_
  · intro args s m h hn
    obtain ⟨meth, c, h1, h2, h3, h4, h5, h6, -, -⟩ := Cond.code_spec hn (atoms_spec (ws := ws) h _ (by rw [hw]; exact List.mem_cons_self))
    exact ⟨meth, c, h1, h2, h3, h4, h5, h6⟩
  · intro p e s m args below meth c s₁ B hml hP _
    have hh0 : s₁.heap = s.heap := by rw [B.state]; rfl
    have ht : ∀ x ∈ c.exceptionTable.toList, False := by
      obtain ⟨meth9, c9, h1, h2, -, -, -, -, h7, -⟩ := Cond.code_spec B.named (atoms_spec (ws := ws) B.pre _ (by rw [hw]; exact List.mem_cons_self))
      cases Option.some.inj (h1.symm.trans B.method)
      cases Option.some.inj (h2.symm.trans (Stand.of_body B).code)
      intro x hx
      rw [Array.isEmpty_iff.mp h7] at hx
      cases hx
    obtain ⟨t, a1, o, b1, b2, b3⟩ := body p e s m args below meth c s₁ B hml ht hP s₁ hh0 (Stand.of_body B)
    exact ⟨t, o, a1, b1, b2, b3⟩
/-- the table of a body with handlers -/
theorem vx_table {p : Program} {x y : MethodName} {S : Spec} {cc bytes : ByteArray} {maxL maxL' : Nat} {ret ret' : Option FieldType} {e : Env} {s s₁ : State} {m : MethodId} {args : Array Value} {below : List Frame} {meth : Method} {c : Code} {hh : List (Nat × Nat × Nat × Nat)}
    (B : BodyLoose p l y S cc maxL ret e s m args below meth c s₁) (h : (Cond.codeWith y bytes maxL' ret' hh).before args s = true) : c.exceptionTable.toList = tableOf hh := by
  obtain ⟨m9, meth9, c9, hn9, h1, h2, -, -, h6, -⟩ := Cond.codeWith_spec h
  cases Option.some.inj (hn9.symm.trans B.named)
  cases Option.some.inj (h1.symm.trans B.method)
  cases Option.some.inj (h2.symm.trans (Stand.of_body B).code)
  rw [← h6, table_eq]
end Bodies
end VXA
/-! ===== END ===== -/
/-! ===== BEGIN a static call of a method with an exception table ===== -/
section VXS
variable {p : Program} {l : Launch} {e : Env} {R : Room} {s : State} {m : MethodId} {args : Array Value} {below : List Frame} {meth : Method} {c : Code} {T : State} {H : Heap} {locs : List Loc} {cells slots : Nat}
abbrev vx_CSW (R : Room) (s : State) (args : Array Value) (own : String) (index : Nat) (y : MethodName) (bytes : ByteArray) (maxL : Nat) (ret : Option FieldType) (hh : List (Nat × Nat × Nat × Nat)) (ws : List Cond) (rm : Room) (mc ms n : Nat) : Prop :=
  (rm.cells = mc ∧ rm.slots = ms ∧ rm.frames + 1 ≤ R.frames ∧ 8 + (maxL + 11) + rm.locals ≤ R.locals ∧ (∀ w ∈ ws, ∀ (a' : Array Value) (U : State), s.WarmedH U.vm → w.before a' U = true) ∧ Cond.codeWith y bytes maxL ret hh ∈ ws) ∧
  (Cond.codeWith y bytes maxL ret hh).before args s = true ∧ (Cond.initialized y.cls).before args s = true ∧ (y.cls ≠ "java/lang/invoke/MethodHandle" ∧ y.cls ≠ "java/lang/invoke/VarHandle") ∧
  (∀ sig, parseMethodDescriptor y.desc = some sig → n = sig.parameters.length) ∧ (Cond.methodLink own index y).before args s = true ∧ (Cond.static y).before args s = true
theorem vx_cwSW {own : String} {index maxL mc ms : Nat} {y : MethodName} {bytes : ByteArray} {ret : Option FieldType} {hh : List (Nat × Nat × Nat × Nat)} {Ts ws ws' : List Cond} {rm : Room} (n : Nat) (ht : ∀ w ∈ Ts, w.before args s = true) (hT : GoodIn Ts (va_wsS own index y ws)) (hw : ws = Cond.codeWith y bytes maxL ret hh :: ws') (hrc : rm.cells = mc) (hrs : rm.slots = ms)
    (hd : y.cls ≠ "java/lang/invoke/MethodHandle" ∧ y.cls ≠ "java/lang/invoke/VarHandle" ∧ (parseMethodDescriptor y.desc).map (fun d => d.parameters.length) = some n) (hR : rm.frames + 1 ≤ R.frames ∧ 8 + (maxL + 11) + rm.locals ≤ R.locals) :
    vx_CSW R s args own index y bytes maxL ret hh ws rm mc ms n := by
  have ok : ∀ w ∈ va_wsS own index y ws, w.before args s = true := fun w h => ht w (hT w h).1
  have hG : GoodIn Ts ws := fun w h => hT w (by unfold va_wsS; exact List.mem_append_right _ h)
  have hc : Cond.codeWith y bytes maxL ret hh ∈ ws := by rw [hw]; exact List.mem_cons_self
  refine ⟨⟨hrc, hrs, hR.1, hR.2, pay_in ht hG, hc⟩, ht _ (hG _ hc).1, ok _ (by simp [va_wsS]), ⟨hd.1, hd.2.1⟩, fun sig h => ?_, ok _ (by simp [va_wsS]), ok _ (by simp [va_wsS])⟩
  have h2 := hd.2.2
  rw [h] at h2
  exact (Option.some.inj h2).symm
theorem vx_callSW (X : Stand p l e R s m args below meth c T locs cells slots) (hexec : p.tables.exec = Jvm.exec) {own : String} {index : Nat} {y : MethodName} {bytes : ByteArray} {maxL : Nat} {ret : Option FieldType} {hh : List (Nat × Nat × Nat × Nat)}
    (hown : s.vm.findClass own = some m.cls) (hlink : (Cond.methodLink own index y).before args s = true) (hstat : (Cond.static y).before args s = true) (hinit : (Cond.initialized y.cls).before args s = true)
    (hcode : (Cond.codeWith y bytes maxL ret hh).before args s = true) (hy : y.cls ≠ "java/lang/invoke/MethodHandle" ∧ y.cls ≠ "java/lang/invoke/VarHandle")
    {W9 : Nat} {Pre : Pt → Array Value → Prop} {Post : Pt → Array Value → Option Value → Pt → Prop} (hK : Back l R p e below s args y 3 W9 Pre Post)
    {g : JFrame} (hg : g.method = m) (hsize : g.locals.size = c.maxLocals) {argsL rest : List Value} (hlen : ∀ sig, parseMethodDescriptor y.desc = some sig → argsL.length = sig.parameters.length)
    (hstack : g.stack = argsL.reverse ++ rest) (hW : 2 * g.monitorRoom + (rest.map fun v => v.category).sum ≤ W9) (hdg : decode c.code g.pc = .ok (.invokestatic index, 3))
    (hpre : ∀ vm₁, s.WarmedH vm₁ → Pre ⟨T.setVm vm₁, locs, cells, slots⟩ argsL.toArray) :
    ∃ (v : Option Value) (vm₁ : Vm) (B : Pt), s.WarmedH vm₁ ∧ Stand p l e R s m args below meth c B.U B.locs B.cells B.slots ∧ Post ⟨T.setVm vm₁, locs, cells, slots⟩ argsL.toArray v B ∧
      ∀ target, Steps p.tables e below (B.U.setTop { g with pc := g.pc + 3, stack := v.toList ++ rest }) target → Steps p.tables e below (T.setTop g) target := by
  obtain ⟨mk, methM, cM, hnamed, hmethM, -, -, -, -, -, -, hsigM⟩ := Cond.codeWith_spec hcode
  have hstatic : methM.isStatic = true := Cond.static_spec hnamed hmethM hstat
  obtain ⟨kP, hkP, -⟩ := className_of_methodNamed hnamed
  have hinitP : kP.init = .initialized := Cond.initialized_spec (findClass_of_methodNamed hnamed) hkP hinit
  obtain ⟨vm₁, X₁, hstep₁⟩ := X.invokestatic hexec hown hlink hnamed hmethM hstatic hkP hinitP hy (g := g) hg (argsL := argsL) (rest := rest) (hlen _ hsigM) hstack hdg
  obtain ⟨v, B, X', hpost, hsteps⟩ := hK m meth c ⟨T.setVm vm₁, locs, cells, slots⟩ { g with stack := rest } (.invokestatic index) mk argsL.toArray X₁ hg hsize hdg hW (X₁.named hnamed) (hpre vm₁ X₁.warmed)
  exact ⟨v, vm₁, B, X₁.warmed, X', hpost, fun target h => hstep₁ _ fun acts => by rw [doInvoke_state]; exact hsteps.trans h⟩
theorem vx_runSW {y : MethodName} {bytes cc : ByteArray} {maxL nL mc ms n index : Nat} {ret : Option FieldType} {hh : List (Nat × Nat × Nat × Nat)} {ws : List Cond} {rm : Room} {Pc : Array Value → State → Prop} {Qc : Array Value → State → Outcome → State → Prop} {free : Addr → Prop} {Ts : List Cond} {own : String} {As rest : List Value} {g : JFrame}
    (S : CallFix p m c cc nL s args Ts own) (hM : Met l y ws rm Pc Qc mc ms free) (cw : vx_CSW R s args own index y bytes maxL ret hh ws rm mc ms n) (hp : PreS s H Pc As)
    (hg : g.method = m) (hn : As.length = n) (hsize : g.locals.size = nL) (hstack : g.stack = As.reverse ++ rest) (hW : 2 * g.monitorRoom + (rest.map fun v => v.category).sum ≤ 8) (hdg : decode cc g.pc = .ok (.invokestatic index, 3)) (hf : cells + mc ≤ R.cells ∧ slots + ms ≤ R.slots) :
    va_Run p l e R s m args below meth c H locs cells slots mc ms g rest (Qc As.toArray) (free) := by
  obtain ⟨⟨hrc, hrs, hfr, hlo, hws, hcw⟩, hcode, hini, hy, hlen, hl, hstt⟩ := cw
  have hK : Back l R p e below s args y 3 8 (PreOf R mc ms Pc) (PostOf Qc mc ms free) := va_backW (hh := hh) (bytes := bytes) (maxL := maxL) (ret := ret) hM hp.1 hrc hrs hfr hlo hws hcw (fun a' U hW => word_at hW (Or.inl (by first | rfl | simp [Cond.onTables, Cond.keeps, Cond.steady])) hini)
  obtain ⟨hx, hb, hml, ho, -⟩ := S
  intro T hT X
  obtain ⟨v, vm₁, ⟨U', l2, c2, s2⟩, hW₁, X', ⟨g', mk, t, L, e1, e2, hq, h1, hL, h2, h3⟩, st⟩ := vx_callSW X hx (hh := hh) (bytes := bytes) (maxL := maxL) (ret := ret) ho hl hstt hini hcode hy hK hg (hsize.trans hml.symm) (argsL := As) (rest := rest) (fun sig h => hn.trans (hlen sig h)) hstack hW (by rw [hb]; exact hdg)
    (fun vm₁ hW₁ => ⟨hf.1, hf.2, hp.2 (T.setVm vm₁) hT hW₁⟩)
  dsimp only [Pt.U, Pt.locs, Pt.cells, Pt.slots] at X' e1 e2 h1 h2 h3 st
  subst h1; subst h2; subst h3
  exact ⟨v, (T.setVm vm₁).calling g' mk As.toArray, t, U', L, hT, X', hL, e1, e2, hq, st⟩
/-- not caught here, past rows that name other classes: it goes on to the caller -/
theorem vx_outP {p : Program} {l : Launch} {e : Env} {R : Room} {s : State} {m : MethodId} {args : Array Value} {below : List Frame} {meth : Method} {c : Code} {H : Heap} {locs : List Loc} {cells slots : Nat} {free : Addr → Prop} {ls : Array Slot} {rest : List Value} {Qc : Array Value → State → Outcome → State → Prop} {XC : String → State → State → Prop}
    {pc : Nat} {own E : String} {ce : Cell} {q : Addr} {mc ms : Nat} (hown : s.vm.findClass own = some m.cls) (hlocks : meth.locks = false)
    (hpass : ∀ z ∈ c.exceptionTable.toList, covers z pc = false ∨ (z.catchType ≠ 0 ∧ ∃ nm : String, (Cond.classLink own z.catchType nm).before args s = true ∧ va_Nc E nm s)) (hcell : H[q]? = some ce) (hv : ce.vm = .none) (hcl : s.vm.findClass E = some ce.cls)
    (hx : ∀ t : State, t.heap = H → s.vm.Alike t.vm → XC E s t) (hf : ∀ z ∈ locs, free z.base) (hc : cells ≤ mc) (hs : slots ≤ ms) :
    vx_W p l e R s m args below meth c H locs cells slots (vx_MQ below Qc XC args s mc ms free) (F0 m pc ls rest) q := by
  intro T hT X
  have hpl : e.platform.magicAccessors = ({} : Platform).magicAccessors := by rw [X.admits.platform]
  obtain ⟨vm', hW', X', st⟩ := X.outThrough hlocks q (g := F0 m pc ls rest) rfl rfl rfl (cell := ce) (by rw [hT]; exact hcell) (by rw [hv]; rfl)
    (by obtain ⟨k9, h9, -⟩ := Vm.findClass_spec hcl; exact ⟨k9, h9⟩) (fun z hz => by
      rcases hpass z hz with h | ⟨hz0, nm, hl1, hn1⟩
      · exact Or.inl h
      · obtain ⟨c6, hc6, hcl6⟩ := Cond.classLink_spec hown hl1 e.platform hpl
        obtain ⟨a8, b8, h1, h2, h3⟩ := hn1
        cases Option.some.inj (h1.symm.trans hcl)
        cases Option.some.inj (h2.symm.trans hc6)
        exact Or.inr ⟨hz0, _, hcl6, h3⟩)
  obtain ⟨g₀, hfr⟩ := X'.frames_eq
  have hcell9 : ((T.setVm vm').setFrames (.throwing q :: below)).heap[q]? = some ce := by
    show T.heap[q]? = some ce
    rw [hT]; exact hcell
  have hend : Ended ((T.setVm vm').setFrames (.throwing q :: below)) below (.threw q) := State.frames_setFrames _ (State.cur_lt_of_frames hfr)
  refine ⟨(T.setVm vm').setFrames (.throwing q :: below), ?_, .threw q, X'.here.running, hend, Or.inr ⟨q, rfl, E, ce, locs, hx _ hT (X'.ends _).1.alike, hcell9, hv, hcl, (X'.ends _).1, (X'.ends _).2.mono hc hs, hf⟩⟩
  rw [X.pushThrowing_eq]
  exact st
/-- a thing of a world lies in the heap -/
theorem vx_lt {D : va_G} {cl : List vw_C} {ws : va_W} {H1 : Heap} (h : va_P D cl ws H1) {k : Nat} {q : Nat × va_E} (hk : ws[k]? = some q) : q.1 < H1.size := (h k q hk).lt
end VXS
/-! ===== END ===== -/
/-! ===== BEGIN methods with a table of their own: called by a name, returning or throwing ===== -/
section VXH
/-! vx_backW, vx_callVX, vx_callSX, vx_callVW, vx_runVW, vx_runVX, vx_runSX, vx_ofWH follow the same proofs as their sisters above (Free/Laws.lean, Shelf42/LK1.lean); vx_outP calls Shelf42/NT130.lean (outThrough). -/
section
variable {l : Launch} {R : Room} {p : Program} {e : Env} {below : List Frame} {s : State} {sargs : Array Value} {y : MethodName} {len W9 : Nat}
theorem vx_backW {ws : List Cond} {rm : Room} {Pc : Array Value → State → Prop} {Qc : Array Value → State → Outcome → State → Prop} {XC : String → State → State → Prop} {mc ms : Nat} {free : Addr → Prop} {bytes : ByteArray} {maxL : Nat} {ret : Option FieldType} {hh : List (Nat × Nat × Nat × Nat)}
    (hM : vx_Met l y ws rm Pc Qc XC mc ms free) (hblind : FrameBlind Pc) (hrc : rm.cells = mc) (hrs : rm.slots = ms)
    (hframes : rm.frames + 1 ≤ R.frames) (hlocals : W9 + (maxL + 11) + rm.locals ≤ R.locals)
    (hws : ∀ w ∈ ws, ∀ a' U, s.WarmedH U.vm → w.before a' U = true) (hcode : Cond.codeWith y bytes maxL ret hh ∈ ws) (hinit : ∀ a' U, s.WarmedH U.vm → (Cond.initialized y.cls).before a' U = true) :
    vx_Back l R p e below s sargs y len W9 (PreOf R mc ms Pc) (PostOf Qc mc ms free) (vx_Post XC mc ms free) := by
  intro m meth c A g ig mk a X hg hsize hdg hW hn hp
  have h1 : (headSpec ws rm).pre.before a A.U = true := atoms_intro fun w hw => hws w hw _ _ X.warmed
  have h2 : (Cond.codeWith y bytes maxL ret hh).before a A.U = true := hws _ hcode _ _ X.warmed
  have h3 : (Cond.initialized y.cls).before a A.U = true := hinit _ _ X.warmed
  have h4 : A.cells + (headSpec ws rm).room.cells ≤ R.cells := by rw [show (headSpec ws rm).room.cells = mc from hrc]; exact hp.1
  have h5 : A.slots + (headSpec ws rm).room.slots ≤ R.slots := by rw [show (headSpec ws rm).room.slots = ms from hrs]; exact hp.2.1
  have hPc : Pc a (A.U.calling g mk a) := hblind _ _ _ _ hp.2.2
  obtain ⟨U, Ls, c0, s0⟩ := A
  dsimp only [Pt.U, Pt.locs, Pt.cells, Pt.slots] at h1 h2 h3 h4 h5 X hn hPc ⊢
  obtain ⟨m9, methY, cY, hn9, hmY, hcY, -, hlY, -⟩ := Cond.codeWith_spec h2
  cases Option.some.inj (hn9.symm.trans hn)
  obtain ⟨kY, hkY, -⟩ := className_of_methodNamed hn
  have hinitY : kY.init = .initialized := Cond.initialized_spec (findClass_of_methodNamed hn) hkY h3
  have h : At U g.method c below := by rw [hg]; exact X.here
  have hlocals9 : W9 + (maxL + 11) + (headSpec ws rm).room.locals ≤ R.locals := hlocals
  have happ : (headSpec ws rm).appliesLoose y e.platform (U.calling g mk a) = true :=
    Spec.appliesLoose_calling (g := g) h hdg hn hkY hinitY
      (X.room_calling (g := g) (R' := (headSpec ws rm).room) hsize hmY hcY hframes (by rw [hlY]; omega) h4 h5) h1
  obtain ⟨mid, hmid⟩ := h.above
  have hfr : (U.setTop g).frames = (.java g :: mid) ++ below := by rw [State.frames_setTop' g h.top, hmid]; rfl
  obtain ⟨o, s₂, hsteps, -, hend, hq⟩ := Steps.callFree hM p X.admits X.cas X.clock (acts := []) hfr happ hPc trivial
  have hq' : vx_Q Qc XC mc ms free a (U.calling g mk a) o s₂ := hq
  rw [State.frames_setTop' g h.top] at hend
  obtain ⟨g₀, hg0⟩ := Option.isSome_iff_exists.mp h.top
  obtain ⟨r, hr⟩ := State.topJava?_eq_some.mp hg0
  have hr' : (({ U with heap := s₂.heap, slotsUsed := s₂.slotsUsed } : State).setVm s₂.vm).frames = .java g₀ :: r := hr
  rcases hq' with ⟨hqc, L, hfe, hL⟩ | ⟨q, rfl, E, ce, L, hx, hce, hcv, hcl, hW₂, hsm, hL⟩
  · obtain ⟨⟨v, rfl⟩, hW₂, e2, q2, q3, q4, q5, q6⟩ := id hfe
    have e3 : s₂ = ({ (U.calling g mk a).setFrames s₂.frames with heap := s₂.heap, slotsUsed := s₂.slotsUsed } : State).setVm s₂.vm := by
      have : s₂ = ({ s₂ with vm := (U.calling g mk a).vm } : State).setVm s₂.vm := rfl
      rw [e2] at this
      exact this
    obtain ⟨c₂, i₂, len₂, hc₂, hd₂, hf₂⟩ := hend
    have hW' : U.WarmedH s₂.vm := hW₂
    have hcc : c₂ = c := by
      have h1 : s₂.code? g.method = U.code? g.method := by
        rw [State.code?_eq, State.code?_eq, hW'.alike.method?]
      exact Option.some.inj (hc₂.symm.trans (h1.trans h.code))
    subst hcc
    have hlen : len₂ = len := by rw [hdg] at hd₂; cases hd₂; rfl
    subst hlen
    have hs₂ : s₂ = (({ U with heap := s₂.heap, slotsUsed := s₂.slotsUsed } : State).setVm s₂.vm).setTop { g with pc := g.pc + len₂, stack := v.toList ++ g.stack } := by
      refine e3.trans ?_
      rw [hf₂, State.calling_eq h.top, State.setFrames_setFrames, State.setTop_of_frames _ hr', hr]
      rfl
    have hsame : U.sameButNew ({ U with heap := s₂.heap, slotsUsed := s₂.slotsUsed } : State) L mc ms := by
      refine ⟨?_, q2, q3, q4, q5, q6⟩
      obtain ⟨t, ht, -⟩ := State.frames_cons hr
      show ({ U with heap := s₂.heap, slotsUsed := s₂.slotsUsed } : State) = { U.setFrames U.frames with heap := s₂.heap, slotsUsed := s₂.slotsUsed }
      rw [State.setFrames_self ht]
    subst hg
    refine Or.inl ⟨v, ⟨(({ U with heap := s₂.heap, slotsUsed := s₂.slotsUsed } : State).setVm s₂.vm), Ls ++ L, c0 + mc, s0 + ms⟩,
      ⟨X.admits, X.cas, X.clock, X.frames, X.room, X.hears, X.method, X.code, (X.here.setHeapUsed s₂.heap s₂.slotsUsed).setVm hW'.alike, X.tail, State.WarmedH.trans X.warmed hW', X.limits, X.bytes, X.same.trans (hsame.setVm s.vm)⟩,
      ⟨g, mk, s₂, L, rfl, rfl, hqc, rfl, hL, rfl, rfl⟩, ?_⟩
    show Steps p.tables e below _ ((({ U with heap := s₂.heap, slotsUsed := s₂.slotsUsed } : State).setVm s₂.vm).setTop { g with pc := g.pc + len₂, stack := v.toList ++ g.stack })
    rw [← hs₂]
    exact hsteps
  · obtain ⟨e2, q2, q3, q4, q5, q6⟩ := id hsm
    have e3 : s₂ = ({ (U.calling g mk a).setFrames s₂.frames with heap := s₂.heap, slotsUsed := s₂.slotsUsed } : State).setVm s₂.vm := by
      have : s₂ = ({ s₂ with vm := (U.calling g mk a).vm } : State).setVm s₂.vm := rfl
      rw [e2] at this
      exact this
    have hf₂ : s₂.frames = .throwing q :: .java g :: U.frames.tail := hend
    have hW' : U.WarmedH s₂.vm := hW₂
    have hs₂ : s₂ = ((({ U with heap := s₂.heap, slotsUsed := s₂.slotsUsed } : State).setVm s₂.vm).setTop g).pushFrame (.throwing q) := by
      refine e3.trans ?_
      rw [hf₂, State.calling_eq h.top, State.setFrames_setFrames, State.pushFrame, State.frames_setTop _ hr', State.setTop_of_frames _ hr', State.setFrames_setFrames, hr]
      rfl
    have hsame : U.sameButNew ({ U with heap := s₂.heap, slotsUsed := s₂.slotsUsed } : State) L mc ms := by
      refine ⟨?_, q2, q3, q4, q5, q6⟩
      obtain ⟨t, ht, -⟩ := State.frames_cons hr
      show ({ U with heap := s₂.heap, slotsUsed := s₂.slotsUsed } : State) = { U.setFrames U.frames with heap := s₂.heap, slotsUsed := s₂.slotsUsed }
      rw [State.setFrames_self ht]
    subst hg
    refine Or.inr ⟨q, ⟨(({ U with heap := s₂.heap, slotsUsed := s₂.slotsUsed } : State).setVm s₂.vm), Ls ++ L, c0 + mc, s0 + ms⟩,
      ⟨X.admits, X.cas, X.clock, X.frames, X.room, X.hears, X.method, X.code, (X.here.setHeapUsed s₂.heap s₂.slotsUsed).setVm hW'.alike, X.tail, State.WarmedH.trans X.warmed hW', X.limits, X.bytes, X.same.trans (hsame.setVm s.vm)⟩,
      ⟨g, mk, s₂, L, E, ce, rfl, rfl, hx, hce, hcv, hcl, rfl, hL, rfl, rfl⟩, ?_⟩
    show Steps p.tables e below _ (((({ U with heap := s₂.heap, slotsUsed := s₂.slotsUsed } : State).setVm s₂.vm).setTop g).pushFrame (.throwing q))
    rw [← hs₂]
    exact hsteps
end
variable {p : Program} {l : Launch} {e : Env} {R : Room} {s : State} {m : MethodId} {args : Array Value} {below : List Frame} {meth : Method} {c : Code} {T : State} {H : Heap} {locs : List Loc} {cells slots : Nat}
theorem vx_callVX (X : Stand p l e R s m args below meth c T locs cells slots) (hexec : p.tables.exec = Jvm.exec) {own C : String} {index : Nat} {y : MethodName} {bytes : ByteArray} {maxL : Nat} {ret : Option FieldType} {hh : List (Nat × Nat × Nat × Nat)}
    (hown : s.vm.findClass own = some m.cls) (hlink : (Cond.methodLink own index y).before args s = true) (hinst : (Cond.instanceMethod y).before args s = true) (hsel : (Cond.selects C y y).before args s = true)
    (hcode : (Cond.codeWith y bytes maxL ret hh).before args s = true) (hy : y.cls ≠ "java/lang/invoke/MethodHandle" ∧ y.cls ≠ "java/lang/invoke/VarHandle")
    {W9 : Nat} {Pre : Pt → Array Value → Prop} {Post : Pt → Array Value → Option Value → Pt → Prop} {PostX : Pt → Array Value → Addr → Pt → Prop} (hK : vx_Back l R p e below s args y 3 W9 Pre Post PostX)
    {b : Addr} {cellB : Cell} (hcell : T.heap[b]? = some cellB) (hobj : cellB.vm.isStatics = false) (hcls : s.vm.findClass C = some cellB.cls)
    {g : JFrame} (hg : g.method = m) (hsize : g.locals.size = c.maxLocals) {argsL rest : List Value} (hlen : ∀ sig, parseMethodDescriptor y.desc = some sig → argsL.length = sig.parameters.length)
    (hstack : g.stack = argsL.reverse ++ .ref b :: rest) (hW : 2 * g.monitorRoom + (rest.map fun v => v.category).sum ≤ W9) (hdg : decode c.code g.pc = .ok (.invokevirtual index, 3))
    (hpre : ∀ vm₁, s.WarmedH vm₁ → Pre ⟨T.setVm vm₁, locs, cells, slots⟩ (Value.ref b :: argsL).toArray) :
    (∃ (v : Option Value) (vm₁ : Vm) (B : Pt), s.WarmedH vm₁ ∧ Stand p l e R s m args below meth c B.U B.locs B.cells B.slots ∧ Post ⟨T.setVm vm₁, locs, cells, slots⟩ (Value.ref b :: argsL).toArray v B ∧
      ∀ target, Steps p.tables e below (B.U.setTop { g with pc := g.pc + 3, stack := v.toList ++ rest }) target → Steps p.tables e below (T.setTop g) target) ∨
    (∃ (q : Addr) (vm₁ : Vm) (B : Pt), s.WarmedH vm₁ ∧ Stand p l e R s m args below meth c B.U B.locs B.cells B.slots ∧ PostX ⟨T.setVm vm₁, locs, cells, slots⟩ (Value.ref b :: argsL).toArray q B ∧
      Steps p.tables e below (T.setTop g) ((B.U.setTop { g with stack := rest }).pushFrame (.throwing q))) := by
  obtain ⟨mk, methM, hnamed, hmethM, hstM, habM⟩ := Cond.instanceMethod_spec hinst
  obtain ⟨m8, methM', cM, hn8, hmethM', -, -, -, -, -, -, hsigM⟩ := Cond.codeWith_spec hcode
  cases Option.some.inj (hn8.symm.trans hnamed)
  cases hmethM.symm.trans hmethM'
  obtain ⟨c2, r2, m2, q1, q2, q3, q4, kP, hkP, hkPi⟩ := Cond.selects_spec hsel
  cases hcls.symm.trans q1
  cases (State.methodFound?_of_named hnamed hy).symm.trans q2
  cases hnamed.symm.trans q3
  have hselP : selectMethod e.platform s.vm cellB.cls mk = .method mk := by rw [Launch.admits_selectMethod X.admits]; exact q4
  obtain ⟨vm₁, X₁, hstep₁⟩ := X.invokevirtual hexec hown hlink hnamed hmethM hstM hkP hkPi hy (a := b) (cell := cellB) hcell
    (fun z h => by rw [h] at hobj; cases hobj) hselP hmethM habM hkP hkPi (g := g) hg (argsL := argsL) (rest := rest) (hlen _ hsigM) hstack hdg
  rcases hK m meth c ⟨T.setVm vm₁, locs, cells, slots⟩ { g with stack := rest } (.invokevirtual index) mk (Value.ref b :: argsL).toArray X₁ hg hsize hdg hW (X₁.named hnamed) (hpre vm₁ X₁.warmed) with ⟨v, B, X', hpost, hsteps⟩ | ⟨q, B, X', hpost, hsteps⟩
  · exact Or.inl ⟨v, vm₁, B, X₁.warmed, X', hpost, fun target h => hstep₁ _ fun acts => by rw [doInvoke_state]; exact hsteps.trans h⟩
  · exact Or.inr ⟨q, vm₁, B, X₁.warmed, X', hpost, hstep₁ _ fun acts => by rw [doInvoke_state]; exact hsteps⟩
theorem vx_callSX (X : Stand p l e R s m args below meth c T locs cells slots) (hexec : p.tables.exec = Jvm.exec) {own : String} {index : Nat} {y : MethodName} {bytes : ByteArray} {maxL : Nat} {ret : Option FieldType} {hh : List (Nat × Nat × Nat × Nat)}
    (hown : s.vm.findClass own = some m.cls) (hlink : (Cond.methodLink own index y).before args s = true) (hstat : (Cond.static y).before args s = true) (hinit : (Cond.initialized y.cls).before args s = true)
    (hcode : (Cond.codeWith y bytes maxL ret hh).before args s = true) (hy : y.cls ≠ "java/lang/invoke/MethodHandle" ∧ y.cls ≠ "java/lang/invoke/VarHandle")
    {W9 : Nat} {Pre : Pt → Array Value → Prop} {Post : Pt → Array Value → Option Value → Pt → Prop} {PostX : Pt → Array Value → Addr → Pt → Prop} (hK : vx_Back l R p e below s args y 3 W9 Pre Post PostX)
    {g : JFrame} (hg : g.method = m) (hsize : g.locals.size = c.maxLocals) {argsL rest : List Value} (hlen : ∀ sig, parseMethodDescriptor y.desc = some sig → argsL.length = sig.parameters.length)
    (hstack : g.stack = argsL.reverse ++ rest) (hW : 2 * g.monitorRoom + (rest.map fun v => v.category).sum ≤ W9) (hdg : decode c.code g.pc = .ok (.invokestatic index, 3))
    (hpre : ∀ vm₁, s.WarmedH vm₁ → Pre ⟨T.setVm vm₁, locs, cells, slots⟩ argsL.toArray) :
    (∃ (v : Option Value) (vm₁ : Vm) (B : Pt), s.WarmedH vm₁ ∧ Stand p l e R s m args below meth c B.U B.locs B.cells B.slots ∧ Post ⟨T.setVm vm₁, locs, cells, slots⟩ argsL.toArray v B ∧
      ∀ target, Steps p.tables e below (B.U.setTop { g with pc := g.pc + 3, stack := v.toList ++ rest }) target → Steps p.tables e below (T.setTop g) target) ∨
    (∃ (q : Addr) (vm₁ : Vm) (B : Pt), s.WarmedH vm₁ ∧ Stand p l e R s m args below meth c B.U B.locs B.cells B.slots ∧ PostX ⟨T.setVm vm₁, locs, cells, slots⟩ argsL.toArray q B ∧
      Steps p.tables e below (T.setTop g) ((B.U.setTop { g with stack := rest }).pushFrame (.throwing q))) := by
  obtain ⟨mk, methM, cM, hnamed, hmethM, -, -, -, -, -, -, hsigM⟩ := Cond.codeWith_spec hcode
  have hstatic : methM.isStatic = true := Cond.static_spec hnamed hmethM hstat
  obtain ⟨kP, hkP, -⟩ := className_of_methodNamed hnamed
  have hinitP : kP.init = .initialized := Cond.initialized_spec (findClass_of_methodNamed hnamed) hkP hinit
  obtain ⟨vm₁, X₁, hstep₁⟩ := X.invokestatic hexec hown hlink hnamed hmethM hstatic hkP hinitP hy (g := g) hg (argsL := argsL) (rest := rest) (hlen _ hsigM) hstack hdg
  rcases hK m meth c ⟨T.setVm vm₁, locs, cells, slots⟩ { g with stack := rest } (.invokestatic index) mk argsL.toArray X₁ hg hsize hdg hW (X₁.named hnamed) (hpre vm₁ X₁.warmed) with ⟨v, B, X', hpost, hsteps⟩ | ⟨q, B, X', hpost, hsteps⟩
  · exact Or.inl ⟨v, vm₁, B, X₁.warmed, X', hpost, fun target h => hstep₁ _ fun acts => by rw [doInvoke_state]; exact hsteps.trans h⟩
  · exact Or.inr ⟨q, vm₁, B, X₁.warmed, X', hpost, hstep₁ _ fun acts => by rw [doInvoke_state]; exact hsteps⟩
theorem vx_callVW (X : Stand p l e R s m args below meth c T locs cells slots) (hexec : p.tables.exec = Jvm.exec) {own C : String} {index : Nat} {y : MethodName} {bytes : ByteArray} {maxL : Nat} {ret : Option FieldType} {hh : List (Nat × Nat × Nat × Nat)}
    (hown : s.vm.findClass own = some m.cls) (hlink : (Cond.methodLink own index y).before args s = true) (hinst : (Cond.instanceMethod y).before args s = true) (hsel : (Cond.selects C y y).before args s = true)
    (hcode : (Cond.codeWith y bytes maxL ret hh).before args s = true) (hy : y.cls ≠ "java/lang/invoke/MethodHandle" ∧ y.cls ≠ "java/lang/invoke/VarHandle")
    {W9 : Nat} {Pre : Pt → Array Value → Prop} {Post : Pt → Array Value → Option Value → Pt → Prop} (hK : Back l R p e below s args y 3 W9 Pre Post)
    {b : Addr} {cellB : Cell} (hcell : T.heap[b]? = some cellB) (hobj : cellB.vm.isStatics = false) (hcls : s.vm.findClass C = some cellB.cls)
    {g : JFrame} (hg : g.method = m) (hsize : g.locals.size = c.maxLocals) {argsL rest : List Value} (hlen : ∀ sig, parseMethodDescriptor y.desc = some sig → argsL.length = sig.parameters.length)
    (hstack : g.stack = argsL.reverse ++ .ref b :: rest) (hW : 2 * g.monitorRoom + (rest.map fun v => v.category).sum ≤ W9) (hdg : decode c.code g.pc = .ok (.invokevirtual index, 3))
    (hpre : ∀ vm₁, s.WarmedH vm₁ → Pre ⟨T.setVm vm₁, locs, cells, slots⟩ (Value.ref b :: argsL).toArray) :
    ∃ (v : Option Value) (vm₁ : Vm) (B : Pt), s.WarmedH vm₁ ∧ Stand p l e R s m args below meth c B.U B.locs B.cells B.slots ∧ Post ⟨T.setVm vm₁, locs, cells, slots⟩ (Value.ref b :: argsL).toArray v B ∧
      ∀ target, Steps p.tables e below (B.U.setTop { g with pc := g.pc + 3, stack := v.toList ++ rest }) target → Steps p.tables e below (T.setTop g) target := by
  obtain ⟨mk, methM, hnamed, hmethM, hstM, habM⟩ := Cond.instanceMethod_spec hinst
  obtain ⟨m8, methM', cM, hn8, hmethM', -, -, -, -, -, -, hsigM⟩ := Cond.codeWith_spec hcode
  cases Option.some.inj (hn8.symm.trans hnamed)
  cases hmethM.symm.trans hmethM'
  obtain ⟨c2, r2, m2, q1, q2, q3, q4, kP, hkP, hkPi⟩ := Cond.selects_spec hsel
  cases hcls.symm.trans q1
  cases (State.methodFound?_of_named hnamed hy).symm.trans q2
  cases hnamed.symm.trans q3
  have hselP : selectMethod e.platform s.vm cellB.cls mk = .method mk := by rw [Launch.admits_selectMethod X.admits]; exact q4
  obtain ⟨vm₁, X₁, hstep₁⟩ := X.invokevirtual hexec hown hlink hnamed hmethM hstM hkP hkPi hy (a := b) (cell := cellB) hcell
    (fun z h => by rw [h] at hobj; cases hobj) hselP hmethM habM hkP hkPi (g := g) hg (argsL := argsL) (rest := rest) (hlen _ hsigM) hstack hdg
  obtain ⟨v, B, X', hpost, hsteps⟩ := hK m meth c ⟨T.setVm vm₁, locs, cells, slots⟩ { g with stack := rest } (.invokevirtual index) mk (Value.ref b :: argsL).toArray X₁ hg hsize hdg hW (X₁.named hnamed) (hpre vm₁ X₁.warmed)
  exact ⟨v, vm₁, B, X₁.warmed, X', hpost, fun target h => hstep₁ _ fun acts => by rw [doInvoke_state]; exact hsteps.trans h⟩
abbrev vx_CVW (R : Room) (s : State) (args : Array Value) (own C : String) (index : Nat) (y : MethodName) (bytes : ByteArray) (maxL : Nat) (ret : Option FieldType) (hh : List (Nat × Nat × Nat × Nat)) (ws : List Cond) (rm : Room) (mc ms n : Nat) : Prop :=
  (rm.cells = mc ∧ rm.slots = ms ∧ rm.frames + 1 ≤ R.frames ∧ 8 + (maxL + 11) + rm.locals ≤ R.locals ∧ (∀ w ∈ ws, ∀ (a' : Array Value) (U : State), s.WarmedH U.vm → w.before a' U = true) ∧ Cond.codeWith y bytes maxL ret hh ∈ ws) ∧
  (Cond.codeWith y bytes maxL ret hh).before args s = true ∧ (Cond.initialized y.cls).before args s = true ∧ (y.cls ≠ "java/lang/invoke/MethodHandle" ∧ y.cls ≠ "java/lang/invoke/VarHandle") ∧
  (∀ sig, parseMethodDescriptor y.desc = some sig → n = sig.parameters.length) ∧ (Cond.methodLink own index y).before args s = true ∧ (Cond.instanceMethod y).before args s = true ∧ (Cond.selects C y y).before args s = true
theorem vx_cwVW {own C : String} {index maxL mc ms : Nat} {y : MethodName} {bytes : ByteArray} {ret : Option FieldType} {hh : List (Nat × Nat × Nat × Nat)} {Ts ws ws' : List Cond} {rm : Room} (n : Nat) (ht : ∀ w ∈ Ts, w.before args s = true) (hT : GoodIn Ts (wsV own index C y ws)) (hw : ws = Cond.codeWith y bytes maxL ret hh :: ws') (hrc : rm.cells = mc) (hrs : rm.slots = ms)
    (hd : y.cls = C ∧ y.cls ≠ "java/lang/invoke/MethodHandle" ∧ y.cls ≠ "java/lang/invoke/VarHandle" ∧ (parseMethodDescriptor y.desc).map (fun d => d.parameters.length) = some n) (hR : rm.frames + 1 ≤ R.frames ∧ 8 + (maxL + 11) + rm.locals ≤ R.locals) :
    vx_CVW R s args own C index y bytes maxL ret hh ws rm mc ms n := by
  obtain ⟨hC, hd⟩ := hd
  subst hC
  have ok : ∀ w ∈ wsV own index y.cls y ws, w.before args s = true := fun w h => ht w (hT w h).1
  have hG : GoodIn Ts ws := fun w h => hT w (by unfold wsV; exact List.mem_append_right _ h)
  have hc : Cond.codeWith y bytes maxL ret hh ∈ ws := by rw [hw]; exact List.mem_cons_self
  refine ⟨⟨hrc, hrs, hR.1, hR.2, pay_in ht hG, hc⟩, ht _ (hG _ hc).1, ok _ (by simp [wsV]), ⟨hd.1, hd.2.1⟩, fun sig h => ?_, ok _ (by simp [wsV]), ok _ (by simp [wsV]), ok _ (by simp [wsV])⟩
  have h2 := hd.2.2
  rw [h] at h2
  exact (Option.some.inj h2).symm
theorem vx_runVW {y : MethodName} {bytes cc : ByteArray} {maxL nL mc ms n index : Nat} {ret : Option FieldType} {hh : List (Nat × Nat × Nat × Nat)} {ws : List Cond} {rm : Room} {Pc : Array Value → State → Prop} {Qc : Array Value → State → Outcome → State → Prop} {free : Addr → Prop} {Ts : List Cond} {own C : String} {b : Addr} {As rest : List Value} {g : JFrame}
    (S : CallFix p m c cc nL s args Ts own) (hM : Met l y ws rm Pc Qc mc ms free) (cw : vx_CVW R s args own C index y bytes maxL ret hh ws rm mc ms n) (hp : PreV s H C b Pc As)
    (hg : g.method = m) (hn : As.length = n) (hsize : g.locals.size = nL) (hstack : g.stack = As.reverse ++ .ref b :: rest) (hW : 2 * g.monitorRoom + (rest.map fun v => v.category).sum ≤ 8) (hdg : decode cc g.pc = .ok (.invokevirtual index, 3)) (hf : cells + mc ≤ R.cells ∧ slots + ms ≤ R.slots) :
    va_Run p l e R s m args below meth c H locs cells slots mc ms g rest (Qc (Value.ref b :: As).toArray) free := by
  obtain ⟨⟨hrc, hrs, hfr, hlo, hws, hcw⟩, hcode, hini, hy, hlen, hl, hin, hse⟩ := cw
  have hK : Back l R p e below s args y 3 8 (PreOf R mc ms Pc) (PostOf Qc mc ms free) := va_backW (hh := hh) (bytes := bytes) (maxL := maxL) (ret := ret) hM hp.1 hrc hrs hfr hlo hws hcw (fun a' U hW => word_at hW (Or.inl (by first | rfl | simp [Cond.onTables, Cond.keeps, Cond.steady])) hini)
  obtain ⟨hx, hb, hml, ho, -⟩ := S
  obtain ⟨-, ⟨cellB, hcB, hoB, hclB⟩, hPc⟩ := hp
  intro T hT X
  obtain ⟨v, vm₁, ⟨U', l2, c2, s2⟩, hW₁, X', ⟨g', mk, t, L, e1, e2, hq, h1, hL, h2, h3⟩, st⟩ := vx_callVW X hx (C := C) (hh := hh) (bytes := bytes) (maxL := maxL) (ret := ret) ho hl hin hse hcode hy hK (by rw [hT]; exact hcB) hoB hclB hg (hsize.trans hml.symm) (argsL := As) (rest := rest) (fun sig h => hn.trans (hlen sig h)) hstack hW (by rw [hb]; exact hdg)
    (fun vm₁ hW₁ => ⟨hf.1, hf.2, hPc (T.setVm vm₁) hT hW₁⟩)
  dsimp only [Pt.U, Pt.locs, Pt.cells, Pt.slots] at X' e1 e2 h1 h2 h3 st
  subst h1; subst h2; subst h3
  exact ⟨v, (T.setVm vm₁).calling g' mk (Value.ref b :: As).toArray, t, U', L, hT, X', hL, e1, e2, hq, st⟩
section
variable {y : MethodName} {bytes cc : ByteArray} {maxL nL mc ms n index : Nat} {ret : Option FieldType} {ws : List Cond} {rm : Room} {Pc : Array Value → State → Prop} {Qc : Array Value → State → Outcome → State → Prop} {XC : String → State → State → Prop} {free : Addr → Prop} {Ts : List Cond} {own C : String} {b : Addr} {As rest : List Value} {g : JFrame}
theorem vx_runVX {hh : List (Nat × Nat × Nat × Nat)} (S : CallFix p m c cc nL s args Ts own) (hM : vx_Met l y ws rm Pc Qc XC mc ms free) (cw : vx_CVW R s args own C index y bytes maxL ret hh ws rm mc ms n) (hp : PreV s H C b Pc As)
    (hg : g.method = m) (hn : As.length = n) (hsize : g.locals.size = nL) (hstack : g.stack = As.reverse ++ .ref b :: rest) (hW : 2 * g.monitorRoom + (rest.map fun v => v.category).sum ≤ 8) (hdg : decode cc g.pc = .ok (.invokevirtual index, 3)) (hf : cells + mc ≤ R.cells ∧ slots + ms ≤ R.slots) :
    vx_Run p l e R s m args below meth c H locs cells slots mc ms g rest (Qc (Value.ref b :: As).toArray) XC free := by
  obtain ⟨⟨hrc, hrs, hfr, hlo, hws, hcw⟩, hcode, hini, hy, hlen, hl, hin, hse⟩ := cw
  have hK : vx_Back l R p e below s args y 3 8 (PreOf R mc ms Pc) (PostOf Qc mc ms free) (vx_Post XC mc ms free) := vx_backW (hh := hh) (bytes := bytes) (maxL := maxL) (ret := ret) hM hp.1 hrc hrs hfr hlo hws hcw (fun a' U hW => word_at hW (Or.inl (by first | rfl | simp [Cond.onTables, Cond.keeps, Cond.steady])) hini)
  obtain ⟨hx, hb, hml, ho, -⟩ := S
  obtain ⟨-, ⟨cellB, hcB, hoB, hclB⟩, hPc⟩ := hp
  intro T hT X
  rcases vx_callVX X hx (C := C) (hh := hh) (bytes := bytes) (maxL := maxL) (ret := ret) ho hl hin hse hcode hy hK (by rw [hT]; exact hcB) hoB hclB hg (hsize.trans hml.symm) (argsL := As) (rest := rest) (fun sig h => hn.trans (hlen sig h)) hstack hW (by rw [hb]; exact hdg)
    (fun vm₁ hW₁ => ⟨hf.1, hf.2, hPc (T.setVm vm₁) hT hW₁⟩) with ⟨v, vm₁, ⟨U', l2, c2, s2⟩, hW₁, X', ⟨g', mk, t, L, e1, e2, hq, h1, hL, h2, h3⟩, st⟩ | ⟨q, vm₁, ⟨U', l2, c2, s2⟩, hW₁, X', ⟨g', mk, t, L, E, ce, e1, e2, hq, hce, hcv, hcl, h1, hL, h2, h3⟩, st⟩
  · dsimp only [Pt.U, Pt.locs, Pt.cells, Pt.slots] at X' e1 e2 h1 h2 h3 st
    subst h1; subst h2; subst h3
    exact Or.inl ⟨v, (T.setVm vm₁).calling g' mk (Value.ref b :: As).toArray, t, U', L, hT, X', hL, e1, e2, hq, st⟩
  · dsimp only [Pt.U, Pt.locs, Pt.cells, Pt.slots] at X' e1 e2 h1 h2 h3 st hcl
    subst h1; subst h2; subst h3
    exact Or.inr ⟨q, (T.setVm vm₁).calling g' mk (Value.ref b :: As).toArray, t, U', L, E, ce, hT, X', hL, e1, e2, hq, hce, hcv, vx_cls hW₁ hcl, st⟩
theorem vx_runSX {hh : List (Nat × Nat × Nat × Nat)} (S : CallFix p m c cc nL s args Ts own) (hM : vx_Met l y ws rm Pc Qc XC mc ms free) (cw : vx_CSW R s args own index y bytes maxL ret hh ws rm mc ms n) (hp : PreS s H Pc As)
    (hg : g.method = m) (hn : As.length = n) (hsize : g.locals.size = nL) (hstack : g.stack = As.reverse ++ rest) (hW : 2 * g.monitorRoom + (rest.map fun v => v.category).sum ≤ 8) (hdg : decode cc g.pc = .ok (.invokestatic index, 3)) (hf : cells + mc ≤ R.cells ∧ slots + ms ≤ R.slots) :
    vx_Run p l e R s m args below meth c H locs cells slots mc ms g rest (Qc As.toArray) XC free := by
  obtain ⟨⟨hrc, hrs, hfr, hlo, hws, hcw⟩, hcode, hini, hy, hlen, hl, hstt⟩ := cw
  have hK : vx_Back l R p e below s args y 3 8 (PreOf R mc ms Pc) (PostOf Qc mc ms free) (vx_Post XC mc ms free) := vx_backW (hh := hh) (bytes := bytes) (maxL := maxL) (ret := ret) hM hp.1 hrc hrs hfr hlo hws hcw (fun a' U hW => word_at hW (Or.inl (by first | rfl | simp [Cond.onTables, Cond.keeps, Cond.steady])) hini)
  obtain ⟨hx, hb, hml, ho, -⟩ := S
  intro T hT X
  rcases vx_callSX X hx (hh := hh) (bytes := bytes) (maxL := maxL) (ret := ret) ho hl hstt hini hcode hy hK hg (hsize.trans hml.symm) (argsL := As) (rest := rest) (fun sig h => hn.trans (hlen sig h)) hstack hW (by rw [hb]; exact hdg)
    (fun vm₁ hW₁ => ⟨hf.1, hf.2, hp.2 (T.setVm vm₁) hT hW₁⟩) with ⟨v, vm₁, ⟨U', l2, c2, s2⟩, hW₁, X', ⟨g', mk, t, L, e1, e2, hq, h1, hL, h2, h3⟩, st⟩ | ⟨q, vm₁, ⟨U', l2, c2, s2⟩, hW₁, X', ⟨g', mk, t, L, E, ce, e1, e2, hq, hce, hcv, hcl, h1, hL, h2, h3⟩, st⟩
  · dsimp only [Pt.U, Pt.locs, Pt.cells, Pt.slots] at X' e1 e2 h1 h2 h3 st
    subst h1; subst h2; subst h3
    exact Or.inl ⟨v, (T.setVm vm₁).calling g' mk As.toArray, t, U', L, hT, X', hL, e1, e2, hq, st⟩
  · dsimp only [Pt.U, Pt.locs, Pt.cells, Pt.slots] at X' e1 e2 h1 h2 h3 st hcl
    subst h1; subst h2; subst h3
    exact Or.inr ⟨q, (T.setVm vm₁).calling g' mk As.toArray, t, U', L, E, ce, hT, X', hL, e1, e2, hq, hce, hcv, vx_cls hW₁ hcl, st⟩
end
end VXH
theorem vx_ofWH {l : Launch} {y : MethodName} {ws ws' : List Cond} {rm : Room} {Pc : Array Value → State → Prop} {Qc : Array Value → State → Outcome → State → Prop} {XC : String → State → State → Prop} {mc ms : Nat} {free : Addr → Prop} {cc : ByteArray} {maxL : Nat} {ret : Option FieldType} {hh : List (Nat × Nat × Nat × Nat)}
    (hy : plainName y.cls = true) (hw : ws = Cond.codeWith y cc maxL ret hh :: ws')
    (body : ∀ p e s m args below meth c s₁, BodyLoose p l y (headSpec ws rm) cc maxL ret e s m args below meth c s₁ → c.maxLocals = maxL → Pc args s →
      W p l e (headSpec ws rm).room s m args below meth c s.heap [] 0 0 (vx_MQ below Qc XC args s mc ms free) (entryFrame m args maxL)) : vx_Met l y ws rm Pc Qc XC mc ms free := by
  refine MetFree.of_bodyS (code := cc) (maxLocals := maxL) (ret := ret) hy ?_ ?_
  · intro args s m h hn
    obtain ⟨m9, meth, c, hn9, h1, h2, h3, h4, -, h5, h6, -⟩ := Cond.codeWith_spec (atoms_spec (ws := ws) h _ (by rw [hw]; exact List.mem_cons_self))
    cases hn.symm.trans hn9
    exact ⟨meth, c, h1, h2, h3, h4, h5, h6⟩
  · intro p e s m args below meth c s₁ B hml hP _
    have hh0 : s₁.heap = s.heap := by rw [B.state]; rfl
    obtain ⟨t, a1, o, b1, b2, b3⟩ := body p e s m args below meth c s₁ B hml hP s₁ hh0 (Stand.of_body B)
    exact ⟨t, o, a1, b1, b2, b3⟩
/-! ===== END ===== -/
end
section
/-! ===== BEGIN printed: names, fields, word lists, decode rows ===== -/
def RX0 : String := "RoofWater$House"
def TX0 : u_T := fun k => match k with
  | 0 => ("RoofWater$House", "roof", "I", false)
  | 1 => ("RoofWater$House", "holds", "I", false)
  | 2 => ("RoofWater$House", "water", "I", false)
  | 3 => ("RoofWater$House", "people", "I", false)
  | 4 => ("RoofWater$House", "garden", "I", false)
  | 5 => ("RoofWater$House", "clogged", "I", false)
  | 6 => ("RoofWater$House", "next", "I", false)
  | 7 => ("RoofWater$House", "thirst", "I", false)
  | 8 => ("RoofWater$House", "watered", "I", false)
  | _ => ("RoofWater$House", "thirstyDays", "I", false)
def tyX0 : Nat → FieldType := fun k => match k with
  | 0 => .int
  | 1 => .int
  | 2 => .int
  | 3 => .int
  | 4 => .int
  | 5 => .int
  | 6 => .int
  | 7 => .int
  | 8 => .int
  | _ => .int
abbrev wsX00 : List Cond := u_ws RX0 TX0 10
theorem nmX0 : ∀ a, a < 10 → ∀ b, b < 10 → a ≠ b → (TX0 a).2.1 ≠ (TX0 b).2.1 := by decide +kernel
theorem tyX0_ok : ∀ k, k < 10 → parseFieldDescriptor (TX0 k).2.2.1 = some (tyX0 k) := by decide +kernel
abbrev cX0_init : ByteArray := prog_2_method_1_code
def yX0_init : MethodName := ⟨RX0, "<init>", "()V"⟩
abbrev cX0_copy : ByteArray := prog_2_method_2_code
def yX0_copy : MethodName := ⟨RX0, "copy", "(LRoofWater$House;)V"⟩
abbrev cX0_fact : ByteArray := prog_2_method_3_code
def yX0_fact : MethodName := ⟨RX0, "fact", "(I)I"⟩
abbrev cX0_resize : ByteArray := prog_2_method_4_code
def yX0_resize : MethodName := ⟨RX0, "resize", "(I)V"⟩
abbrev cX0_runOff : ByteArray := prog_2_method_5_code
def yX0_runOff : MethodName := ⟨RX0, "runOff", "(I)I"⟩
abbrev cX0_takeIn : ByteArray := prog_2_method_6_code
def yX0_takeIn : MethodName := ⟨RX0, "takeIn", "(I)I"⟩
abbrev cX0_drink : ByteArray := prog_2_method_7_code
def yX0_drink : MethodName := ⟨RX0, "drink", "()I"⟩
abbrev cX0_waterGarden : ByteArray := prog_2_method_8_code
def yX0_waterGarden : MethodName := ⟨RX0, "waterGarden", "()V"⟩
abbrev cX0_clog : ByteArray := prog_2_method_9_code
def yX0_clog : MethodName := ⟨RX0, "clog", "(I)V"⟩
def RX1 : String := "RoofWater$Pipe"
def TX1 : u_T := fun k => match k with
  | 0 => ("RoofWater$Pipe", "a", "I", false)
  | 1 => ("RoofWater$Pipe", "b", "I", false)
  | 2 => ("RoofWater$Pipe", "lets", "I", false)
  | 3 => ("RoofWater$Pipe", "isOpen", "Z", false)
  | 4 => ("RoofWater$Pipe", "through", "I", false)
  | _ => ("RoofWater$Pipe", "toB", "I", false)
def tyX1 : Nat → FieldType := fun k => match k with
  | 0 => .int
  | 1 => .int
  | 2 => .int
  | 3 => .boolean
  | 4 => .int
  | _ => .int
abbrev wsX10 : List Cond := u_ws RX1 TX1 6
theorem nmX1 : ∀ a, a < 6 → ∀ b, b < 6 → a ≠ b → (TX1 a).2.1 ≠ (TX1 b).2.1 := by decide +kernel
theorem tyX1_ok : ∀ k, k < 6 → parseFieldDescriptor (TX1 k).2.2.1 = some (tyX1 k) := by decide +kernel
abbrev cX1_init : ByteArray := prog_3_method_1_code
def yX1_init : MethodName := ⟨RX1, "<init>", "()V"⟩
abbrev cX1_copy : ByteArray := prog_3_method_2_code
def yX1_copy : MethodName := ⟨RX1, "copy", "(LRoofWater$Pipe;)V"⟩
abbrev cX1_fact : ByteArray := prog_3_method_3_code
def yX1_fact : MethodName := ⟨RX1, "fact", "(I)I"⟩
abbrev cX1_evenOut : ByteArray := prog_3_method_4_code
def yX1_evenOut : MethodName := ⟨RX1, "evenOut", "(LRoofWater$House;LRoofWater$House;)V"⟩
abbrev cX1_debt : ByteArray := prog_3_method_5_code
def yX1_debt : MethodName := ⟨RX1, "debt", "(II)I"⟩
def RX2 : String := "RoofWater$Village"
def TX2 : u_T := fun k => match k with
  | 0 => ("RoofWater$Village", "weather", "LRoofWater$Weather;", true)
  | 1 => ("RoofWater$Village", "houses", "[LRoofWater$House;", true)
  | 2 => ("RoofWater$Village", "pipes", "[LRoofWater$Pipe;", true)
  | 3 => ("RoofWater$Village", "houseCount", "I", false)
  | 4 => ("RoofWater$Village", "pipeCount", "I", false)
  | 5 => ("RoofWater$Village", "day", "I", false)
  | 6 => ("RoofWater$Village", "fromRoofs", "I", false)
  | 7 => ("RoofWater$Village", "lost", "I", false)
  | 8 => ("RoofWater$Village", "drunk", "I", false)
  | _ => ("RoofWater$Village", "carted", "I", false)
def tyX2 : Nat → FieldType := fun k => match k with
  | 0 => .object "RoofWater$Weather"
  | 1 => .array (.object "RoofWater$House")
  | 2 => .array (.object "RoofWater$Pipe")
  | 3 => .int
  | 4 => .int
  | 5 => .int
  | 6 => .int
  | 7 => .int
  | 8 => .int
  | _ => .int
abbrev wsX20 : List Cond := u_ws RX2 TX2 10
theorem nmX2 : ∀ a, a < 10 → ∀ b, b < 10 → a ≠ b → (TX2 a).2.1 ≠ (TX2 b).2.1 := by decide +kernel
theorem tyX2_ok : ∀ k, k < 10 → parseFieldDescriptor (TX2 k).2.2.1 = some (tyX2 k) := by decide +kernel
abbrev cX2_init : ByteArray := prog_4_method_1_code
def yX2_init : MethodName := ⟨RX2, "<init>", "(LRoofWater$Weather;)V"⟩
abbrev cX2_copy : ByteArray := prog_4_method_2_code
def yX2_copy : MethodName := ⟨RX2, "copy", "(LRoofWater$Village;)V"⟩
abbrev cX2_hasHouse : ByteArray := prog_4_method_3_code
def yX2_hasHouse : MethodName := ⟨RX2, "hasHouse", "(I)Z"⟩
abbrev cX2_hasPipe : ByteArray := prog_4_method_4_code
def yX2_hasPipe : MethodName := ⟨RX2, "hasPipe", "(I)Z"⟩
abbrev cX2_addHouse : ByteArray := prog_4_method_5_code
def yX2_addHouse : MethodName := ⟨RX2, "addHouse", "(IIII)I"⟩
abbrev cX2_addPipe : ByteArray := prog_4_method_6_code
def yX2_addPipe : MethodName := ⟨RX2, "addPipe", "(III)I"⟩
abbrev cX2_flowsThrough : ByteArray := prog_4_method_7_code
def yX2_flowsThrough : MethodName := ⟨RX2, "flowsThrough", "(II)Z"⟩
abbrev cX2_chainLength : ByteArray := prog_4_method_8_code
def yX2_chainLength : MethodName := ⟨RX2, "chainLength", "(I)I"⟩
abbrev cX2_pour : ByteArray := prog_4_method_9_code
def yX2_pour : MethodName := ⟨RX2, "pour", "(II)I"⟩
abbrev cX2_live : ByteArray := prog_4_method_10_code
def yX2_live : MethodName := ⟨RX2, "live", "(I)I"⟩
abbrev cX2_daysToThirst : ByteArray := prog_4_method_11_code
def yX2_daysToThirst : MethodName := ⟨RX2, "daysToThirst", "(II)I"⟩
abbrev cX2_liveDay : ByteArray := prog_4_method_12_code
def yX2_liveDay : MethodName := ⟨RX2, "liveDay", "()V"⟩
abbrev cX2_rainDown : ByteArray := prog_4_method_13_code
def yX2_rainDown : MethodName := ⟨RX2, "rainDown", "(I)V"⟩
abbrev cX2_openPipesFlow : ByteArray := prog_4_method_14_code
def yX2_openPipesFlow : MethodName := ⟨RX2, "openPipesFlow", "()V"⟩
abbrev cX2_debt : ByteArray := prog_4_method_15_code
def yX2_debt : MethodName := ⟨RX2, "debt", "(II)I"⟩
abbrev cX2_total : ByteArray := prog_4_method_16_code
def yX2_total : MethodName := ⟨RX2, "total", "(I)I"⟩
abbrev cX2_allWater : ByteArray := prog_4_method_17_code
def yX2_allWater : MethodName := ⟨RX2, "allWater", "()I"⟩
abbrev cX2_allHolds : ByteArray := prog_4_method_18_code
def yX2_allHolds : MethodName := ⟨RX2, "allHolds", "()I"⟩
abbrev cX2_allThirst : ByteArray := prog_4_method_19_code
def yX2_allThirst : MethodName := ⟨RX2, "allThirst", "()I"⟩
abbrev cX2_allWatered : ByteArray := prog_4_method_20_code
def yX2_allWatered : MethodName := ⟨RX2, "allWatered", "()I"⟩
abbrev cX2_openValves : ByteArray := prog_4_method_21_code
def yX2_openValves : MethodName := ⟨RX2, "openValves", "()I"⟩
def RX3 : String := "RoofWater$Weather"
def TX3 : u_T := fun k => match k with
  | 0 => ("RoofWater$Weather", "rain", "[I", true)
  | _ => ("RoofWater$Weather", "leaves", "[I", true)
def tyX3 : Nat → FieldType := fun k => match k with
  | 0 => .array .int
  | _ => .array .int
abbrev wsX30 : List Cond := u_ws RX3 TX3 2
theorem nmX3 : ∀ a, a < 2 → ∀ b, b < 2 → a ≠ b → (TX3 a).2.1 ≠ (TX3 b).2.1 := by decide +kernel
theorem tyX3_ok : ∀ k, k < 2 → parseFieldDescriptor (TX3 k).2.2.1 = some (tyX3 k) := by decide +kernel
abbrev cX3_init : ByteArray := prog_5_method_1_code
def yX3_init : MethodName := ⟨RX3, "<init>", "()V"⟩
abbrev cX3_change : ByteArray := prog_5_method_2_code
def yX3_change : MethodName := ⟨RX3, "change", "(III)V"⟩
abbrev cX3_code : ByteArray := prog_5_method_3_code
def yX3_code : MethodName := ⟨RX3, "code", "(I)I"⟩
abbrev cX3_rainOn : ByteArray := prog_5_method_4_code
def yX3_rainOn : MethodName := ⟨RX3, "rainOn", "(I)I"⟩
abbrev cX3_leavesOn : ByteArray := prog_5_method_5_code
def yX3_leavesOn : MethodName := ⟨RX3, "leavesOn", "(I)I"⟩
abbrev cX3_longestDryRow : ByteArray := prog_5_method_6_code
def yX3_longestDryRow : MethodName := ⟨RX3, "longestDryRow", "()I"⟩
def RX4 : String := "RoofWater"
def TX4 : u_T := fun k => match k with
  | 0 => ("RoofWater", "weather", "LRoofWater$Weather;", true)
  | 1 => ("RoofWater", "village", "LRoofWater$Village;", true)
  | _ => ("RoofWater", "trial", "LRoofWater$Village;", true)
def tyX4 : Nat → FieldType := fun k => match k with
  | 0 => .object "RoofWater$Weather"
  | 1 => .object "RoofWater$Village"
  | _ => .object "RoofWater$Village"
abbrev wsX40 : List Cond := u_ws RX4 TX4 3
theorem nmX4 : ∀ a, a < 3 → ∀ b, b < 3 → a ≠ b → (TX4 a).2.1 ≠ (TX4 b).2.1 := by decide +kernel
theorem tyX4_ok : ∀ k, k < 3 → parseFieldDescriptor (TX4 k).2.2.1 = some (tyX4 k) := by decide +kernel
abbrev cX4_init : ByteArray := prog_1_method_1_code
def yX4_init : MethodName := ⟨RX4, "<init>", "()V"⟩
abbrev cX4_setWeather : ByteArray := prog_1_method_2_code
def yX4_setWeather : MethodName := ⟨RX4, "setWeather", "(III)I"⟩
abbrev cX4_build : ByteArray := prog_1_method_3_code
def yX4_build : MethodName := ⟨RX4, "build", "(IIII)I"⟩
abbrev cX4_chain : ByteArray := prog_1_method_4_code
def yX4_chain : MethodName := ⟨RX4, "chain", "(II)I"⟩
abbrev cX4_lay : ByteArray := prog_1_method_5_code
def yX4_lay : MethodName := ⟨RX4, "lay", "(III)I"⟩
abbrev cX4_turn : ByteArray := prog_1_method_6_code
def yX4_turn : MethodName := ⟨RX4, "turn", "(IZ)Z"⟩
abbrev cX4_clean : ByteArray := prog_1_method_7_code
def yX4_clean : MethodName := ⟨RX4, "clean", "(I)I"⟩
abbrev cX4_cart : ByteArray := prog_1_method_8_code
def yX4_cart : MethodName := ⟨RX4, "cart", "(II)I"⟩
abbrev cX4_setPeople : ByteArray := prog_1_method_9_code
def yX4_setPeople : MethodName := ⟨RX4, "setPeople", "(II)I"⟩
abbrev cX4_house : ByteArray := prog_1_method_10_code
def yX4_house : MethodName := ⟨RX4, "house", "(II)I"⟩
abbrev cX4_pipe : ByteArray := prog_1_method_11_code
def yX4_pipe : MethodName := ⟨RX4, "pipe", "(II)I"⟩
abbrev cX4_owes : ByteArray := prog_1_method_12_code
def yX4_owes : MethodName := ⟨RX4, "owes", "(II)I"⟩
abbrev cX4_pass : ByteArray := prog_1_method_13_code
def yX4_pass : MethodName := ⟨RX4, "pass", "(I)I"⟩
abbrev cX4_count : ByteArray := prog_1_method_14_code
def yX4_count : MethodName := ⟨RX4, "count", "(I)I"⟩
abbrev cX4_foresee : ByteArray := prog_1_method_15_code
def yX4_foresee : MethodName := ⟨RX4, "foresee", "(II)I"⟩
abbrev cX4_lasts : ByteArray := prog_1_method_16_code
def yX4_lasts : MethodName := ⟨RX4, "lasts", "(I)I"⟩
abbrev cX4_needs : ByteArray := prog_1_method_17_code
def yX4_needs : MethodName := ⟨RX4, "needs", "(II)I"⟩
abbrev cX4_dirty : ByteArray := prog_1_method_18_code
def yX4_dirty : MethodName := ⟨RX4, "dirty", "(I)I"⟩
abbrev cX4_advise : ByteArray := prog_1_method_19_code
def yX4_advise : MethodName := ⟨RX4, "advise", "(I)I"⟩
abbrev cX4_drought : ByteArray := prog_1_method_20_code
def yX4_drought : MethodName := ⟨RX4, "drought", "()I"⟩
abbrev cX4_full : ByteArray := prog_1_method_21_code
def yX4_full : MethodName := ⟨RX4, "full", "()D"⟩
abbrev cX4_digest : ByteArray := prog_1_method_22_code
def yX4_digest : MethodName := ⟨RX4, "digest", "()J"⟩
abbrev cX4_mixHouses : ByteArray := prog_1_method_23_code
def yX4_mixHouses : MethodName := ⟨RX4, "mixHouses", "(J)J"⟩
abbrev cX4_mixPipes : ByteArray := prog_1_method_24_code
def yX4_mixPipes : MethodName := ⟨RX4, "mixPipes", "(J)J"⟩
abbrev cX4_mixDebts : ByteArray := prog_1_method_25_code
def yX4_mixDebts : MethodName := ⟨RX4, "mixDebts", "(J)J"⟩
abbrev cX4_mix : ByteArray := prog_1_method_26_code
def yX4_mix : MethodName := ⟨RX4, "mix", "(JJ)J"⟩
abbrev cX4_isWithin : ByteArray := prog_1_method_27_code
def yX4_isWithin : MethodName := ⟨RX4, "isWithin", "(III)Z"⟩
abbrev cX4_needHouse : ByteArray := prog_1_method_28_code
def yX4_needHouse : MethodName := ⟨RX4, "needHouse", "(I)V"⟩
abbrev cX4_needPipe : ByteArray := prog_1_method_29_code
def yX4_needPipe : MethodName := ⟨RX4, "needPipe", "(I)V"⟩
abbrev cX4_needIndex : ByteArray := prog_1_method_30_code
def yX4_needIndex : MethodName := ⟨RX4, "needIndex", "(Z)V"⟩
abbrev cX4_needArgument : ByteArray := prog_1_method_31_code
def yX4_needArgument : MethodName := ⟨RX4, "needArgument", "(Z)V"⟩
abbrev cX4_needState : ByteArray := prog_1_method_32_code
def yX4_needState : MethodName := ⟨RX4, "needState", "(Z)V"⟩
def RX5 : String := "RoofWaterModel"
def TX5 : u_T := fun k => match k with
  | 0 => ("RoofWaterModel", "thrown", "I", false)
  | 1 => ("RoofWaterModel", "rain", "[I", true)
  | 2 => ("RoofWaterModel", "leaves", "[I", true)
  | 3 => ("RoofWaterModel", "houses", "I", false)
  | 4 => ("RoofWaterModel", "pipes", "I", false)
  | 5 => ("RoofWaterModel", "village", "[I", true)
  | 6 => ("RoofWaterModel", "laid", "[I", true)
  | 7 => ("RoofWaterModel", "from", "[I", true)
  | _ => ("RoofWaterModel", "numbers", "[I", true)
def tyX5 : Nat → FieldType := fun k => match k with
  | 0 => .int
  | 1 => .array .int
  | 2 => .array .int
  | 3 => .int
  | 4 => .int
  | 5 => .array .int
  | 6 => .array .int
  | 7 => .array .int
  | _ => .array .int
abbrev wsX50 : List Cond := u_ws RX5 TX5 9
theorem nmX5 : ∀ a, a < 9 → ∀ b, b < 9 → a ≠ b → (TX5 a).2.1 ≠ (TX5 b).2.1 := by decide +kernel
theorem tyX5_ok : ∀ k, k < 9 → parseFieldDescriptor (TX5 k).2.2.1 = some (tyX5 k) := by decide +kernel
abbrev cX5_init : ByteArray := prog_7_method_1_code
def yX5_init : MethodName := ⟨RX5, "<init>", "()V"⟩
abbrev cX5_thrown : ByteArray := prog_7_method_2_code
def yX5_thrown : MethodName := ⟨RX5, "thrown", "()I"⟩
abbrev cX5_fail : ByteArray := prog_7_method_3_code
def yX5_fail : MethodName := ⟨RX5, "fail", "(I)I"⟩
abbrev cX5_isIn : ByteArray := prog_7_method_4_code
def yX5_isIn : MethodName := ⟨RX5, "isIn", "(III)Z"⟩
abbrev cX5_isHouse : ByteArray := prog_7_method_5_code
def yX5_isHouse : MethodName := ⟨RX5, "isHouse", "(I)Z"⟩
abbrev cX5_isPipe : ByteArray := prog_7_method_6_code
def yX5_isPipe : MethodName := ⟨RX5, "isPipe", "(I)Z"⟩
abbrev cX5_ho : ByteArray := prog_7_method_7_code
def yX5_ho : MethodName := ⟨RX5, "ho", "(II)I"⟩
abbrev cX5_set : ByteArray := prog_7_method_8_code
def yX5_set : MethodName := ⟨RX5, "set", "(III)V"⟩
abbrev cX5_pi : ByteArray := prog_7_method_9_code
def yX5_pi : MethodName := ⟨RX5, "pi", "(II)I"⟩
abbrev cX5_setWeather : ByteArray := prog_7_method_10_code
def yX5_setWeather : MethodName := ⟨RX5, "setWeather", "(III)I"⟩
abbrev cX5_build : ByteArray := prog_7_method_11_code
def yX5_build : MethodName := ⟨RX5, "build", "(IIII)I"⟩
abbrev cX5_chain : ByteArray := prog_7_method_12_code
def yX5_chain : MethodName := ⟨RX5, "chain", "(II)I"⟩
abbrev cX5_lay : ByteArray := prog_7_method_13_code
def yX5_lay : MethodName := ⟨RX5, "lay", "(III)I"⟩
abbrev cX5_turn : ByteArray := prog_7_method_14_code
def yX5_turn : MethodName := ⟨RX5, "turn", "(IZ)Z"⟩
abbrev cX5_clean : ByteArray := prog_7_method_15_code
def yX5_clean : MethodName := ⟨RX5, "clean", "(I)I"⟩
abbrev cX5_pour : ByteArray := prog_7_method_16_code
def yX5_pour : MethodName := ⟨RX5, "pour", "(II)I"⟩
abbrev cX5_cart : ByteArray := prog_7_method_17_code
def yX5_cart : MethodName := ⟨RX5, "cart", "(II)I"⟩
abbrev cX5_setPeople : ByteArray := prog_7_method_18_code
def yX5_setPeople : MethodName := ⟨RX5, "setPeople", "(II)I"⟩
abbrev cX5_house : ByteArray := prog_7_method_19_code
def yX5_house : MethodName := ⟨RX5, "house", "(II)I"⟩
abbrev cX5_pipe : ByteArray := prog_7_method_20_code
def yX5_pipe : MethodName := ⟨RX5, "pipe", "(II)I"⟩
abbrev cX5_debt : ByteArray := prog_7_method_21_code
def yX5_debt : MethodName := ⟨RX5, "debt", "(II)I"⟩
abbrev cX5_owes : ByteArray := prog_7_method_22_code
def yX5_owes : MethodName := ⟨RX5, "owes", "(II)I"⟩
abbrev cX5_even : ByteArray := prog_7_method_23_code
def yX5_even : MethodName := ⟨RX5, "even", "(I)V"⟩
abbrev cX5_dayOn : ByteArray := prog_7_method_24_code
def yX5_dayOn : MethodName := ⟨RX5, "dayOn", "()I"⟩
abbrev cX5_daysOn : ByteArray := prog_7_method_25_code
def yX5_daysOn : MethodName := ⟨RX5, "daysOn", "(I)I"⟩
abbrev cX5_pass : ByteArray := prog_7_method_26_code
def yX5_pass : MethodName := ⟨RX5, "pass", "(I)I"⟩
abbrev cX5_all : ByteArray := prog_7_method_27_code
def yX5_all : MethodName := ⟨RX5, "all", "(I)I"⟩
abbrev cX5_counted : ByteArray := prog_7_method_28_code
def yX5_counted : MethodName := ⟨RX5, "counted", "(I)I"⟩
abbrev cX5_count : ByteArray := prog_7_method_29_code
def yX5_count : MethodName := ⟨RX5, "count", "(I)I"⟩
abbrev cX5_kept : ByteArray := prog_7_method_30_code
def yX5_kept : MethodName := ⟨RX5, "kept", "()[[I"⟩
abbrev cX5_bringBack : ByteArray := prog_7_method_31_code
def yX5_bringBack : MethodName := ⟨RX5, "bringBack", "([[I)V"⟩
abbrev cX5_foresee : ByteArray := prog_7_method_32_code
def yX5_foresee : MethodName := ⟨RX5, "foresee", "(II)I"⟩
abbrev cX5_lasts : ByteArray := prog_7_method_33_code
def yX5_lasts : MethodName := ⟨RX5, "lasts", "(I)I"⟩
abbrev cX5_needs : ByteArray := prog_7_method_34_code
def yX5_needs : MethodName := ⟨RX5, "needs", "(II)I"⟩
abbrev cX5_dirty : ByteArray := prog_7_method_35_code
def yX5_dirty : MethodName := ⟨RX5, "dirty", "(I)I"⟩
abbrev cX5_advise : ByteArray := prog_7_method_36_code
def yX5_advise : MethodName := ⟨RX5, "advise", "(I)I"⟩
abbrev cX5_drought : ByteArray := prog_7_method_37_code
def yX5_drought : MethodName := ⟨RX5, "drought", "()I"⟩
abbrev cX5_full : ByteArray := prog_7_method_38_code
def yX5_full : MethodName := ⟨RX5, "full", "()D"⟩
abbrev cX5_digest : ByteArray := prog_7_method_39_code
def yX5_digest : MethodName := ⟨RX5, "digest", "()J"⟩
def RJx8e188 : String := "java/lang/Cloneable"
def TJx8e188 : u_T := fun k => match k with
  | _ => ("", "", "", false)
def tyJx8e188 : Nat → FieldType := fun k => match k with
  | _ => .int
abbrev wsJx8e1880 : List Cond := u_ws RJx8e188 TJx8e188 0
theorem nmJx8e188 : ∀ a, a < 0 → ∀ b, b < 0 → a ≠ b → (TJx8e188 a).2.1 ≠ (TJx8e188 b).2.1 := by decide +kernel
theorem tyJx8e188_ok : ∀ k, k < 0 → parseFieldDescriptor (TJx8e188 k).2.2.1 = some (tyJx8e188 k) := by decide +kernel
def RJ9 : String := "java/lang/Math"
def TJ9 : u_T := fun k => match k with
  | _ => ("", "", "", false)
def tyJ9 : Nat → FieldType := fun k => match k with
  | _ => .int
abbrev wsJ90 : List Cond := u_ws RJ9 TJ9 0
theorem nmJ9 : ∀ a, a < 0 → ∀ b, b < 0 → a ≠ b → (TJ9 a).2.1 ≠ (TJ9 b).2.1 := by decide +kernel
theorem tyJ9_ok : ∀ k, k < 0 → parseFieldDescriptor (TJ9 k).2.2.1 = some (tyJ9 k) := by decide +kernel
abbrev cJ9_floorMod_7cf53 : ByteArray := prog_13_method_50_code
def yJ9_floorMod_7cf53 : MethodName := ⟨RJ9, "floorMod", "(II)I"⟩
abbrev cJ9_abs_0f7a4 : ByteArray := prog_13_method_59_code
def yJ9_abs_0f7a4 : MethodName := ⟨RJ9, "abs", "(I)I"⟩
abbrev cJ9_max_7cf53 : ByteArray := prog_13_method_65_code
def yJ9_max_7cf53 : MethodName := ⟨RJ9, "max", "(II)I"⟩
abbrev cJ9_min_7cf53 : ByteArray := prog_13_method_69_code
def yJ9_min_7cf53 : MethodName := ⟨RJ9, "min", "(II)I"⟩
def RJ0 : String := "java/lang/String"
def TJ0 : u_T := fun k => match k with
  | _ => ("", "", "", false)
def tyJ0 : Nat → FieldType := fun k => match k with
  | _ => .int
abbrev wsJ00 : List Cond := u_ws RJ0 TJ0 0
theorem nmJ0 : ∀ a, a < 0 → ∀ b, b < 0 → a ≠ b → (TJ0 a).2.1 ≠ (TJ0 b).2.1 := by decide +kernel
theorem tyJ0_ok : ∀ k, k < 0 → parseFieldDescriptor (TJ0 k).2.2.1 = some (tyJ0 k) := by decide +kernel
def RJ10 : String := "java/lang/System"
def TJ10 : u_T := fun k => match k with
  | _ => ("", "", "", false)
def tyJ10 : Nat → FieldType := fun k => match k with
  | _ => .int
abbrev wsJ100 : List Cond := u_ws RJ10 TJ10 0
theorem nmJ10 : ∀ a, a < 0 → ∀ b, b < 0 → a ≠ b → (TJ10 a).2.1 ≠ (TJ10 b).2.1 := by decide +kernel
theorem tyJ10_ok : ∀ k, k < 0 → parseFieldDescriptor (TJ10 k).2.2.1 = some (tyJ10 k) := by decide +kernel
def RL : String := "RoofWaterLaw"
abbrev cL_setWeather : ByteArray := method_3_code
def yL_setWeather : MethodName := ⟨RL, "setWeather", "(LRoofWater;III[J)I"⟩
abbrev cL_build : ByteArray := method_4_code
def yL_build : MethodName := ⟨RL, "build", "(LRoofWater;IIII[J)I"⟩
abbrev cL_chain : ByteArray := method_5_code
def yL_chain : MethodName := ⟨RL, "chain", "(LRoofWater;II[J)I"⟩
abbrev cL_lay : ByteArray := method_6_code
def yL_lay : MethodName := ⟨RL, "lay", "(LRoofWater;III[J)I"⟩
abbrev cL_turn : ByteArray := method_7_code
def yL_turn : MethodName := ⟨RL, "turn", "(LRoofWater;IZ[J)I"⟩
abbrev cL_clean : ByteArray := method_8_code
def yL_clean : MethodName := ⟨RL, "clean", "(LRoofWater;I[J)I"⟩
abbrev cL_cart : ByteArray := method_9_code
def yL_cart : MethodName := ⟨RL, "cart", "(LRoofWater;II[J)I"⟩
abbrev cL_setPeople : ByteArray := method_10_code
def yL_setPeople : MethodName := ⟨RL, "setPeople", "(LRoofWater;II[J)I"⟩
abbrev cL_house : ByteArray := method_11_code
def yL_house : MethodName := ⟨RL, "house", "(LRoofWater;II[J)I"⟩
abbrev cL_pipe : ByteArray := method_12_code
def yL_pipe : MethodName := ⟨RL, "pipe", "(LRoofWater;II[J)I"⟩
abbrev cL_owes : ByteArray := method_13_code
def yL_owes : MethodName := ⟨RL, "owes", "(LRoofWater;II[J)I"⟩
abbrev cL_pass : ByteArray := method_14_code
def yL_pass : MethodName := ⟨RL, "pass", "(LRoofWater;I[J)I"⟩
abbrev cL_count : ByteArray := method_15_code
def yL_count : MethodName := ⟨RL, "count", "(LRoofWater;I[J)I"⟩
abbrev cL_foresee : ByteArray := method_16_code
def yL_foresee : MethodName := ⟨RL, "foresee", "(LRoofWater;II[J)I"⟩
abbrev cL_lasts : ByteArray := method_17_code
def yL_lasts : MethodName := ⟨RL, "lasts", "(LRoofWater;I[J)I"⟩
abbrev cL_needs : ByteArray := method_18_code
def yL_needs : MethodName := ⟨RL, "needs", "(LRoofWater;II[J)I"⟩
abbrev cL_dirty : ByteArray := method_19_code
def yL_dirty : MethodName := ⟨RL, "dirty", "(LRoofWater;I[J)I"⟩
abbrev cL_advise : ByteArray := method_20_code
def yL_advise : MethodName := ⟨RL, "advise", "(LRoofWater;I[J)I"⟩
abbrev cL_law : ByteArray := code
def yL_law : MethodName := ⟨RL, "law", "([I)Z"⟩
abbrev vwCl : List vw_C := [(RX0, TX0, 10), (RX1, TX1, 6), (RX2, TX2, 10), (RX3, TX3, 2), (RX4, TX4, 3), (RX5, TX5, 9)]
end
section
theorem dX0_init_0 : decode cX0_init 0 = .ok (.aload_n 0, 1) := by decide +kernel
theorem dX0_init_1 : decode cX0_init 1 = .ok (.invokespecial 3, 3) := by decide +kernel
theorem dX0_init_4 : decode cX0_init 4 = .ok (.aload_n 0, 1) := by decide +kernel
theorem dX0_init_5 : decode cX0_init 5 = .ok (.iconst (-1), 1) := by decide +kernel
theorem dX0_init_6 : decode cX0_init 6 = .ok (.putfield 9, 3) := by decide +kernel
theorem dX0_init_9 : decode cX0_init 9 = .ok (.return_, 1) := by decide +kernel
theorem dX0_copy_0 : decode cX0_copy 0 = .ok (.aload_n 0, 1) := by decide +kernel
theorem dX0_copy_1 : decode cX0_copy 1 = .ok (.aload_n 1, 1) := by decide +kernel
theorem dX0_copy_2 : decode cX0_copy 2 = .ok (.getfield 15, 3) := by decide +kernel
theorem dX0_copy_5 : decode cX0_copy 5 = .ok (.putfield 15, 3) := by decide +kernel
theorem dX0_copy_8 : decode cX0_copy 8 = .ok (.aload_n 0, 1) := by decide +kernel
theorem dX0_copy_9 : decode cX0_copy 9 = .ok (.aload_n 1, 1) := by decide +kernel
theorem dX0_copy_10 : decode cX0_copy 10 = .ok (.getfield 18, 3) := by decide +kernel
theorem dX0_copy_13 : decode cX0_copy 13 = .ok (.putfield 18, 3) := by decide +kernel
theorem dX0_copy_16 : decode cX0_copy 16 = .ok (.aload_n 0, 1) := by decide +kernel
theorem dX0_copy_17 : decode cX0_copy 17 = .ok (.aload_n 1, 1) := by decide +kernel
theorem dX0_copy_18 : decode cX0_copy 18 = .ok (.getfield 21, 3) := by decide +kernel
theorem dX0_copy_21 : decode cX0_copy 21 = .ok (.putfield 21, 3) := by decide +kernel
theorem dX0_copy_24 : decode cX0_copy 24 = .ok (.aload_n 0, 1) := by decide +kernel
theorem dX0_copy_25 : decode cX0_copy 25 = .ok (.aload_n 1, 1) := by decide +kernel
theorem dX0_copy_26 : decode cX0_copy 26 = .ok (.getfield 24, 3) := by decide +kernel
theorem dX0_copy_29 : decode cX0_copy 29 = .ok (.putfield 24, 3) := by decide +kernel
theorem dX0_copy_32 : decode cX0_copy 32 = .ok (.aload_n 0, 1) := by decide +kernel
theorem dX0_copy_33 : decode cX0_copy 33 = .ok (.aload_n 1, 1) := by decide +kernel
theorem dX0_copy_34 : decode cX0_copy 34 = .ok (.getfield 27, 3) := by decide +kernel
theorem dX0_copy_37 : decode cX0_copy 37 = .ok (.putfield 27, 3) := by decide +kernel
theorem dX0_copy_40 : decode cX0_copy 40 = .ok (.aload_n 0, 1) := by decide +kernel
theorem dX0_copy_41 : decode cX0_copy 41 = .ok (.aload_n 1, 1) := by decide +kernel
theorem dX0_copy_42 : decode cX0_copy 42 = .ok (.getfield 30, 3) := by decide +kernel
theorem dX0_copy_45 : decode cX0_copy 45 = .ok (.putfield 30, 3) := by decide +kernel
theorem dX0_copy_48 : decode cX0_copy 48 = .ok (.aload_n 0, 1) := by decide +kernel
theorem dX0_copy_49 : decode cX0_copy 49 = .ok (.aload_n 1, 1) := by decide +kernel
theorem dX0_copy_50 : decode cX0_copy 50 = .ok (.getfield 9, 3) := by decide +kernel
theorem dX0_copy_53 : decode cX0_copy 53 = .ok (.putfield 9, 3) := by decide +kernel
theorem dX0_copy_56 : decode cX0_copy 56 = .ok (.aload_n 0, 1) := by decide +kernel
theorem dX0_copy_57 : decode cX0_copy 57 = .ok (.aload_n 1, 1) := by decide +kernel
theorem dX0_copy_58 : decode cX0_copy 58 = .ok (.getfield 33, 3) := by decide +kernel
theorem dX0_copy_61 : decode cX0_copy 61 = .ok (.putfield 33, 3) := by decide +kernel
theorem dX0_copy_64 : decode cX0_copy 64 = .ok (.aload_n 0, 1) := by decide +kernel
theorem dX0_copy_65 : decode cX0_copy 65 = .ok (.aload_n 1, 1) := by decide +kernel
theorem dX0_copy_66 : decode cX0_copy 66 = .ok (.getfield 36, 3) := by decide +kernel
theorem dX0_copy_69 : decode cX0_copy 69 = .ok (.putfield 36, 3) := by decide +kernel
theorem dX0_copy_72 : decode cX0_copy 72 = .ok (.aload_n 0, 1) := by decide +kernel
theorem dX0_copy_73 : decode cX0_copy 73 = .ok (.aload_n 1, 1) := by decide +kernel
theorem dX0_copy_74 : decode cX0_copy 74 = .ok (.getfield 39, 3) := by decide +kernel
theorem dX0_copy_77 : decode cX0_copy 77 = .ok (.putfield 39, 3) := by decide +kernel
theorem dX0_copy_80 : decode cX0_copy 80 = .ok (.return_, 1) := by decide +kernel
theorem dX0_fact_0 : decode cX0_fact 0 = .ok (.iload_n 1, 1) := by decide +kernel
theorem dX0_fact_1 : decode cX0_fact 1 = .ok (.tableswitch 96 0 8 #[51, 56, 61, 66, 71, 76, 81, 86, 91], 51) := by decide +kernel
theorem dX0_fact_52 : decode cX0_fact 52 = .ok (.aload_n 0, 1) := by decide +kernel
theorem dX0_fact_53 : decode cX0_fact 53 = .ok (.getfield 15, 3) := by decide +kernel
theorem dX0_fact_56 : decode cX0_fact 56 = .ok (.ireturn, 1) := by decide +kernel
theorem dX0_fact_57 : decode cX0_fact 57 = .ok (.aload_n 0, 1) := by decide +kernel
theorem dX0_fact_58 : decode cX0_fact 58 = .ok (.getfield 18, 3) := by decide +kernel
theorem dX0_fact_61 : decode cX0_fact 61 = .ok (.ireturn, 1) := by decide +kernel
theorem dX0_fact_62 : decode cX0_fact 62 = .ok (.aload_n 0, 1) := by decide +kernel
theorem dX0_fact_63 : decode cX0_fact 63 = .ok (.getfield 21, 3) := by decide +kernel
theorem dX0_fact_66 : decode cX0_fact 66 = .ok (.ireturn, 1) := by decide +kernel
theorem dX0_fact_67 : decode cX0_fact 67 = .ok (.aload_n 0, 1) := by decide +kernel
theorem dX0_fact_68 : decode cX0_fact 68 = .ok (.getfield 24, 3) := by decide +kernel
theorem dX0_fact_71 : decode cX0_fact 71 = .ok (.ireturn, 1) := by decide +kernel
theorem dX0_fact_72 : decode cX0_fact 72 = .ok (.aload_n 0, 1) := by decide +kernel
theorem dX0_fact_73 : decode cX0_fact 73 = .ok (.getfield 27, 3) := by decide +kernel
theorem dX0_fact_76 : decode cX0_fact 76 = .ok (.ireturn, 1) := by decide +kernel
theorem dX0_fact_77 : decode cX0_fact 77 = .ok (.aload_n 0, 1) := by decide +kernel
theorem dX0_fact_78 : decode cX0_fact 78 = .ok (.getfield 30, 3) := by decide +kernel
theorem dX0_fact_81 : decode cX0_fact 81 = .ok (.ireturn, 1) := by decide +kernel
theorem dX0_fact_82 : decode cX0_fact 82 = .ok (.aload_n 0, 1) := by decide +kernel
theorem dX0_fact_83 : decode cX0_fact 83 = .ok (.getfield 9, 3) := by decide +kernel
theorem dX0_fact_86 : decode cX0_fact 86 = .ok (.ireturn, 1) := by decide +kernel
theorem dX0_fact_87 : decode cX0_fact 87 = .ok (.aload_n 0, 1) := by decide +kernel
theorem dX0_fact_88 : decode cX0_fact 88 = .ok (.getfield 33, 3) := by decide +kernel
theorem dX0_fact_91 : decode cX0_fact 91 = .ok (.ireturn, 1) := by decide +kernel
theorem dX0_fact_92 : decode cX0_fact 92 = .ok (.aload_n 0, 1) := by decide +kernel
theorem dX0_fact_93 : decode cX0_fact 93 = .ok (.getfield 36, 3) := by decide +kernel
theorem dX0_fact_96 : decode cX0_fact 96 = .ok (.ireturn, 1) := by decide +kernel
theorem dX0_fact_97 : decode cX0_fact 97 = .ok (.aload_n 0, 1) := by decide +kernel
theorem dX0_fact_98 : decode cX0_fact 98 = .ok (.getfield 39, 3) := by decide +kernel
theorem dX0_fact_101 : decode cX0_fact 101 = .ok (.ireturn, 1) := by decide +kernel
theorem dX0_resize_0 : decode cX0_resize 0 = .ok (.aload_n 0, 1) := by decide +kernel
theorem dX0_resize_1 : decode cX0_resize 1 = .ok (.iload_n 1, 1) := by decide +kernel
theorem dX0_resize_2 : decode cX0_resize 2 = .ok (.putfield 18, 3) := by decide +kernel
theorem dX0_resize_5 : decode cX0_resize 5 = .ok (.aload_n 0, 1) := by decide +kernel
theorem dX0_resize_6 : decode cX0_resize 6 = .ok (.aload_n 0, 1) := by decide +kernel
theorem dX0_resize_7 : decode cX0_resize 7 = .ok (.getfield 21, 3) := by decide +kernel
theorem dX0_resize_10 : decode cX0_resize 10 = .ok (.iload_n 1, 1) := by decide +kernel
theorem dX0_resize_11 : decode cX0_resize 11 = .ok (.invokestatic 42, 3) := by decide +kernel
theorem dX0_resize_14 : decode cX0_resize 14 = .ok (.putfield 21, 3) := by decide +kernel
theorem dX0_resize_17 : decode cX0_resize 17 = .ok (.return_, 1) := by decide +kernel
theorem dX0_runOff_0 : decode cX0_runOff 0 = .ok (.aload_n 0, 1) := by decide +kernel
theorem dX0_runOff_1 : decode cX0_runOff 1 = .ok (.getfield 15, 3) := by decide +kernel
theorem dX0_runOff_4 : decode cX0_runOff 4 = .ok (.iload_n 1, 1) := by decide +kernel
theorem dX0_runOff_5 : decode cX0_runOff 5 = .ok (.imul, 1) := by decide +kernel
theorem dX0_runOff_6 : decode cX0_runOff 6 = .ok (.bipush 10, 2) := by decide +kernel
theorem dX0_runOff_8 : decode cX0_runOff 8 = .ok (.aload_n 0, 1) := by decide +kernel
theorem dX0_runOff_9 : decode cX0_runOff 9 = .ok (.getfield 30, 3) := by decide +kernel
theorem dX0_runOff_12 : decode cX0_runOff 12 = .ok (.isub, 1) := by decide +kernel
theorem dX0_runOff_13 : decode cX0_runOff 13 = .ok (.imul, 1) := by decide +kernel
theorem dX0_runOff_14 : decode cX0_runOff 14 = .ok (.bipush 10, 2) := by decide +kernel
theorem dX0_runOff_16 : decode cX0_runOff 16 = .ok (.idiv, 1) := by decide +kernel
theorem dX0_runOff_17 : decode cX0_runOff 17 = .ok (.ireturn, 1) := by decide +kernel
theorem dX0_takeIn_0 : decode cX0_takeIn 0 = .ok (.iload_n 1, 1) := by decide +kernel
theorem dX0_takeIn_1 : decode cX0_takeIn 1 = .ok (.aload_n 0, 1) := by decide +kernel
theorem dX0_takeIn_2 : decode cX0_takeIn 2 = .ok (.getfield 18, 3) := by decide +kernel
theorem dX0_takeIn_5 : decode cX0_takeIn 5 = .ok (.aload_n 0, 1) := by decide +kernel
theorem dX0_takeIn_6 : decode cX0_takeIn 6 = .ok (.getfield 21, 3) := by decide +kernel
theorem dX0_takeIn_9 : decode cX0_takeIn 9 = .ok (.isub, 1) := by decide +kernel
theorem dX0_takeIn_10 : decode cX0_takeIn 10 = .ok (.invokestatic 42, 3) := by decide +kernel
theorem dX0_takeIn_13 : decode cX0_takeIn 13 = .ok (.istore_n 2, 1) := by decide +kernel
theorem dX0_takeIn_14 : decode cX0_takeIn 14 = .ok (.aload_n 0, 1) := by decide +kernel
theorem dX0_takeIn_15 : decode cX0_takeIn 15 = .ok (.dup, 1) := by decide +kernel
theorem dX0_takeIn_16 : decode cX0_takeIn 16 = .ok (.getfield 21, 3) := by decide +kernel
theorem dX0_takeIn_19 : decode cX0_takeIn 19 = .ok (.iload_n 2, 1) := by decide +kernel
theorem dX0_takeIn_20 : decode cX0_takeIn 20 = .ok (.iadd, 1) := by decide +kernel
theorem dX0_takeIn_21 : decode cX0_takeIn 21 = .ok (.putfield 21, 3) := by decide +kernel
theorem dX0_takeIn_24 : decode cX0_takeIn 24 = .ok (.iload_n 1, 1) := by decide +kernel
theorem dX0_takeIn_25 : decode cX0_takeIn 25 = .ok (.iload_n 2, 1) := by decide +kernel
theorem dX0_takeIn_26 : decode cX0_takeIn 26 = .ok (.isub, 1) := by decide +kernel
theorem dX0_takeIn_27 : decode cX0_takeIn 27 = .ok (.ireturn, 1) := by decide +kernel
theorem dX0_drink_0 : decode cX0_drink 0 = .ok (.iconst 3, 1) := by decide +kernel
theorem dX0_drink_1 : decode cX0_drink 1 = .ok (.aload_n 0, 1) := by decide +kernel
theorem dX0_drink_2 : decode cX0_drink 2 = .ok (.getfield 24, 3) := by decide +kernel
theorem dX0_drink_5 : decode cX0_drink 5 = .ok (.imul, 1) := by decide +kernel
theorem dX0_drink_6 : decode cX0_drink 6 = .ok (.istore_n 1, 1) := by decide +kernel
theorem dX0_drink_7 : decode cX0_drink 7 = .ok (.iload_n 1, 1) := by decide +kernel
theorem dX0_drink_8 : decode cX0_drink 8 = .ok (.aload_n 0, 1) := by decide +kernel
theorem dX0_drink_9 : decode cX0_drink 9 = .ok (.getfield 21, 3) := by decide +kernel
theorem dX0_drink_12 : decode cX0_drink 12 = .ok (.invokestatic 42, 3) := by decide +kernel
theorem dX0_drink_15 : decode cX0_drink 15 = .ok (.istore_n 2, 1) := by decide +kernel
theorem dX0_drink_16 : decode cX0_drink 16 = .ok (.aload_n 0, 1) := by decide +kernel
theorem dX0_drink_17 : decode cX0_drink 17 = .ok (.dup, 1) := by decide +kernel
theorem dX0_drink_18 : decode cX0_drink 18 = .ok (.getfield 21, 3) := by decide +kernel
theorem dX0_drink_21 : decode cX0_drink 21 = .ok (.iload_n 2, 1) := by decide +kernel
theorem dX0_drink_22 : decode cX0_drink 22 = .ok (.isub, 1) := by decide +kernel
theorem dX0_drink_23 : decode cX0_drink 23 = .ok (.putfield 21, 3) := by decide +kernel
theorem dX0_drink_26 : decode cX0_drink 26 = .ok (.aload_n 0, 1) := by decide +kernel
theorem dX0_drink_27 : decode cX0_drink 27 = .ok (.dup, 1) := by decide +kernel
theorem dX0_drink_28 : decode cX0_drink 28 = .ok (.getfield 33, 3) := by decide +kernel
theorem dX0_drink_31 : decode cX0_drink 31 = .ok (.iload_n 1, 1) := by decide +kernel
theorem dX0_drink_32 : decode cX0_drink 32 = .ok (.iload_n 2, 1) := by decide +kernel
theorem dX0_drink_33 : decode cX0_drink 33 = .ok (.isub, 1) := by decide +kernel
theorem dX0_drink_34 : decode cX0_drink 34 = .ok (.iadd, 1) := by decide +kernel
theorem dX0_drink_35 : decode cX0_drink 35 = .ok (.putfield 33, 3) := by decide +kernel
theorem dX0_drink_38 : decode cX0_drink 38 = .ok (.iload_n 2, 1) := by decide +kernel
theorem dX0_drink_39 : decode cX0_drink 39 = .ok (.iload_n 1, 1) := by decide +kernel
theorem dX0_drink_40 : decode cX0_drink 40 = .ok (.if_icmp .ge 13, 3) := by decide +kernel
theorem dX0_drink_43 : decode cX0_drink 43 = .ok (.aload_n 0, 1) := by decide +kernel
theorem dX0_drink_44 : decode cX0_drink 44 = .ok (.dup, 1) := by decide +kernel
theorem dX0_drink_45 : decode cX0_drink 45 = .ok (.getfield 39, 3) := by decide +kernel
theorem dX0_drink_48 : decode cX0_drink 48 = .ok (.iconst 1, 1) := by decide +kernel
theorem dX0_drink_49 : decode cX0_drink 49 = .ok (.iadd, 1) := by decide +kernel
theorem dX0_drink_50 : decode cX0_drink 50 = .ok (.putfield 39, 3) := by decide +kernel
theorem dX0_drink_53 : decode cX0_drink 53 = .ok (.iload_n 2, 1) := by decide +kernel
theorem dX0_drink_54 : decode cX0_drink 54 = .ok (.ireturn, 1) := by decide +kernel
theorem dX0_waterGarden_0 : decode cX0_waterGarden 0 = .ok (.iconst 2, 1) := by decide +kernel
theorem dX0_waterGarden_1 : decode cX0_waterGarden 1 = .ok (.aload_n 0, 1) := by decide +kernel
theorem dX0_waterGarden_2 : decode cX0_waterGarden 2 = .ok (.getfield 21, 3) := by decide +kernel
theorem dX0_waterGarden_5 : decode cX0_waterGarden 5 = .ok (.imul, 1) := by decide +kernel
theorem dX0_waterGarden_6 : decode cX0_waterGarden 6 = .ok (.aload_n 0, 1) := by decide +kernel
theorem dX0_waterGarden_7 : decode cX0_waterGarden 7 = .ok (.getfield 18, 3) := by decide +kernel
theorem dX0_waterGarden_10 : decode cX0_waterGarden 10 = .ok (.isub, 1) := by decide +kernel
theorem dX0_waterGarden_11 : decode cX0_waterGarden 11 = .ok (.istore_n 1, 1) := by decide +kernel
theorem dX0_waterGarden_12 : decode cX0_waterGarden 12 = .ok (.iload_n 1, 1) := by decide +kernel
theorem dX0_waterGarden_13 : decode cX0_waterGarden 13 = .ok (.ifCond .le 34, 3) := by decide +kernel
theorem dX0_waterGarden_16 : decode cX0_waterGarden 16 = .ok (.aload_n 0, 1) := by decide +kernel
theorem dX0_waterGarden_17 : decode cX0_waterGarden 17 = .ok (.getfield 27, 3) := by decide +kernel
theorem dX0_waterGarden_20 : decode cX0_waterGarden 20 = .ok (.iload_n 1, 1) := by decide +kernel
theorem dX0_waterGarden_21 : decode cX0_waterGarden 21 = .ok (.iconst 2, 1) := by decide +kernel
theorem dX0_waterGarden_22 : decode cX0_waterGarden 22 = .ok (.idiv, 1) := by decide +kernel
theorem dX0_waterGarden_23 : decode cX0_waterGarden 23 = .ok (.invokestatic 42, 3) := by decide +kernel
theorem dX0_waterGarden_26 : decode cX0_waterGarden 26 = .ok (.istore_n 2, 1) := by decide +kernel
theorem dX0_waterGarden_27 : decode cX0_waterGarden 27 = .ok (.aload_n 0, 1) := by decide +kernel
theorem dX0_waterGarden_28 : decode cX0_waterGarden 28 = .ok (.dup, 1) := by decide +kernel
theorem dX0_waterGarden_29 : decode cX0_waterGarden 29 = .ok (.getfield 21, 3) := by decide +kernel
theorem dX0_waterGarden_32 : decode cX0_waterGarden 32 = .ok (.iload_n 2, 1) := by decide +kernel
theorem dX0_waterGarden_33 : decode cX0_waterGarden 33 = .ok (.isub, 1) := by decide +kernel
theorem dX0_waterGarden_34 : decode cX0_waterGarden 34 = .ok (.putfield 21, 3) := by decide +kernel
theorem dX0_waterGarden_37 : decode cX0_waterGarden 37 = .ok (.aload_n 0, 1) := by decide +kernel
theorem dX0_waterGarden_38 : decode cX0_waterGarden 38 = .ok (.dup, 1) := by decide +kernel
theorem dX0_waterGarden_39 : decode cX0_waterGarden 39 = .ok (.getfield 36, 3) := by decide +kernel
theorem dX0_waterGarden_42 : decode cX0_waterGarden 42 = .ok (.iload_n 2, 1) := by decide +kernel
theorem dX0_waterGarden_43 : decode cX0_waterGarden 43 = .ok (.iadd, 1) := by decide +kernel
theorem dX0_waterGarden_44 : decode cX0_waterGarden 44 = .ok (.putfield 36, 3) := by decide +kernel
theorem dX0_waterGarden_47 : decode cX0_waterGarden 47 = .ok (.return_, 1) := by decide +kernel
theorem dX0_clog_0 : decode cX0_clog 0 = .ok (.aload_n 0, 1) := by decide +kernel
theorem dX0_clog_1 : decode cX0_clog 1 = .ok (.bipush 10, 2) := by decide +kernel
theorem dX0_clog_3 : decode cX0_clog 3 = .ok (.aload_n 0, 1) := by decide +kernel
theorem dX0_clog_4 : decode cX0_clog 4 = .ok (.getfield 30, 3) := by decide +kernel
theorem dX0_clog_7 : decode cX0_clog 7 = .ok (.iload_n 1, 1) := by decide +kernel
theorem dX0_clog_8 : decode cX0_clog 8 = .ok (.iadd, 1) := by decide +kernel
theorem dX0_clog_9 : decode cX0_clog 9 = .ok (.invokestatic 42, 3) := by decide +kernel
theorem dX0_clog_12 : decode cX0_clog 12 = .ok (.putfield 30, 3) := by decide +kernel
theorem dX0_clog_15 : decode cX0_clog 15 = .ok (.return_, 1) := by decide +kernel
theorem dJ9_floorMod_7cf53_0 : decode cJ9_floorMod_7cf53 0 = .ok (.iload_n 0, 1) := by decide +kernel
theorem dJ9_floorMod_7cf53_1 : decode cJ9_floorMod_7cf53 1 = .ok (.iload_n 1, 1) := by decide +kernel
theorem dJ9_floorMod_7cf53_2 : decode cJ9_floorMod_7cf53 2 = .ok (.irem, 1) := by decide +kernel
theorem dJ9_floorMod_7cf53_3 : decode cJ9_floorMod_7cf53 3 = .ok (.istore_n 2, 1) := by decide +kernel
theorem dJ9_floorMod_7cf53_4 : decode cJ9_floorMod_7cf53 4 = .ok (.iload_n 0, 1) := by decide +kernel
theorem dJ9_floorMod_7cf53_5 : decode cJ9_floorMod_7cf53 5 = .ok (.iload_n 1, 1) := by decide +kernel
theorem dJ9_floorMod_7cf53_6 : decode cJ9_floorMod_7cf53 6 = .ok (.ixor, 1) := by decide +kernel
theorem dJ9_floorMod_7cf53_7 : decode cJ9_floorMod_7cf53 7 = .ok (.ifCond .ge 11, 3) := by decide +kernel
theorem dJ9_floorMod_7cf53_10 : decode cJ9_floorMod_7cf53 10 = .ok (.iload_n 2, 1) := by decide +kernel
theorem dJ9_floorMod_7cf53_11 : decode cJ9_floorMod_7cf53 11 = .ok (.ifCond .eq 7, 3) := by decide +kernel
theorem dJ9_floorMod_7cf53_14 : decode cJ9_floorMod_7cf53 14 = .ok (.iload_n 2, 1) := by decide +kernel
theorem dJ9_floorMod_7cf53_15 : decode cJ9_floorMod_7cf53 15 = .ok (.iload_n 1, 1) := by decide +kernel
theorem dJ9_floorMod_7cf53_16 : decode cJ9_floorMod_7cf53 16 = .ok (.iadd, 1) := by decide +kernel
theorem dJ9_floorMod_7cf53_17 : decode cJ9_floorMod_7cf53 17 = .ok (.ireturn, 1) := by decide +kernel
theorem dJ9_floorMod_7cf53_18 : decode cJ9_floorMod_7cf53 18 = .ok (.iload_n 2, 1) := by decide +kernel
theorem dJ9_floorMod_7cf53_19 : decode cJ9_floorMod_7cf53 19 = .ok (.ireturn, 1) := by decide +kernel
theorem dJ9_abs_0f7a4_0 : decode cJ9_abs_0f7a4 0 = .ok (.iload_n 0, 1) := by decide +kernel
theorem dJ9_abs_0f7a4_1 : decode cJ9_abs_0f7a4 1 = .ok (.ifCond .ge 8, 3) := by decide +kernel
theorem dJ9_abs_0f7a4_4 : decode cJ9_abs_0f7a4 4 = .ok (.iload_n 0, 1) := by decide +kernel
theorem dJ9_abs_0f7a4_5 : decode cJ9_abs_0f7a4 5 = .ok (.ineg, 1) := by decide +kernel
theorem dJ9_abs_0f7a4_6 : decode cJ9_abs_0f7a4 6 = .ok (.goto 4, 3) := by decide +kernel
theorem dJ9_abs_0f7a4_9 : decode cJ9_abs_0f7a4 9 = .ok (.iload_n 0, 1) := by decide +kernel
theorem dJ9_abs_0f7a4_10 : decode cJ9_abs_0f7a4 10 = .ok (.ireturn, 1) := by decide +kernel
theorem dJ9_max_7cf53_0 : decode cJ9_max_7cf53 0 = .ok (.iload_n 0, 1) := by decide +kernel
theorem dJ9_max_7cf53_1 : decode cJ9_max_7cf53 1 = .ok (.iload_n 1, 1) := by decide +kernel
theorem dJ9_max_7cf53_2 : decode cJ9_max_7cf53 2 = .ok (.if_icmp .lt 7, 3) := by decide +kernel
theorem dJ9_max_7cf53_5 : decode cJ9_max_7cf53 5 = .ok (.iload_n 0, 1) := by decide +kernel
theorem dJ9_max_7cf53_6 : decode cJ9_max_7cf53 6 = .ok (.goto 4, 3) := by decide +kernel
theorem dJ9_max_7cf53_9 : decode cJ9_max_7cf53 9 = .ok (.iload_n 1, 1) := by decide +kernel
theorem dJ9_max_7cf53_10 : decode cJ9_max_7cf53 10 = .ok (.ireturn, 1) := by decide +kernel
theorem dJ9_min_7cf53_0 : decode cJ9_min_7cf53 0 = .ok (.iload_n 0, 1) := by decide +kernel
theorem dJ9_min_7cf53_1 : decode cJ9_min_7cf53 1 = .ok (.iload_n 1, 1) := by decide +kernel
theorem dJ9_min_7cf53_2 : decode cJ9_min_7cf53 2 = .ok (.if_icmp .gt 7, 3) := by decide +kernel
theorem dJ9_min_7cf53_5 : decode cJ9_min_7cf53 5 = .ok (.iload_n 0, 1) := by decide +kernel
theorem dJ9_min_7cf53_6 : decode cJ9_min_7cf53 6 = .ok (.goto 4, 3) := by decide +kernel
theorem dJ9_min_7cf53_9 : decode cJ9_min_7cf53 9 = .ok (.iload_n 1, 1) := by decide +kernel
theorem dJ9_min_7cf53_10 : decode cJ9_min_7cf53 10 = .ok (.ireturn, 1) := by decide +kernel
theorem dX1_init_0 : decode cX1_init 0 = .ok (.aload_n 0, 1) := by decide +kernel
theorem dX1_init_1 : decode cX1_init 1 = .ok (.invokespecial 1, 3) := by decide +kernel
theorem dX1_init_4 : decode cX1_init 4 = .ok (.return_, 1) := by decide +kernel
theorem dX1_copy_0 : decode cX1_copy 0 = .ok (.aload_n 0, 1) := by decide +kernel
theorem dX1_copy_1 : decode cX1_copy 1 = .ok (.aload_n 1, 1) := by decide +kernel
theorem dX1_copy_2 : decode cX1_copy 2 = .ok (.getfield 7, 3) := by decide +kernel
theorem dX1_copy_5 : decode cX1_copy 5 = .ok (.putfield 7, 3) := by decide +kernel
theorem dX1_copy_8 : decode cX1_copy 8 = .ok (.aload_n 0, 1) := by decide +kernel
theorem dX1_copy_9 : decode cX1_copy 9 = .ok (.aload_n 1, 1) := by decide +kernel
theorem dX1_copy_10 : decode cX1_copy 10 = .ok (.getfield 13, 3) := by decide +kernel
theorem dX1_copy_13 : decode cX1_copy 13 = .ok (.putfield 13, 3) := by decide +kernel
theorem dX1_copy_16 : decode cX1_copy 16 = .ok (.aload_n 0, 1) := by decide +kernel
theorem dX1_copy_17 : decode cX1_copy 17 = .ok (.aload_n 1, 1) := by decide +kernel
theorem dX1_copy_18 : decode cX1_copy 18 = .ok (.getfield 16, 3) := by decide +kernel
theorem dX1_copy_21 : decode cX1_copy 21 = .ok (.putfield 16, 3) := by decide +kernel
theorem dX1_copy_24 : decode cX1_copy 24 = .ok (.aload_n 0, 1) := by decide +kernel
theorem dX1_copy_25 : decode cX1_copy 25 = .ok (.aload_n 1, 1) := by decide +kernel
theorem dX1_copy_26 : decode cX1_copy 26 = .ok (.getfield 19, 3) := by decide +kernel
theorem dX1_copy_29 : decode cX1_copy 29 = .ok (.putfield 19, 3) := by decide +kernel
theorem dX1_copy_32 : decode cX1_copy 32 = .ok (.aload_n 0, 1) := by decide +kernel
theorem dX1_copy_33 : decode cX1_copy 33 = .ok (.aload_n 1, 1) := by decide +kernel
theorem dX1_copy_34 : decode cX1_copy 34 = .ok (.getfield 23, 3) := by decide +kernel
theorem dX1_copy_37 : decode cX1_copy 37 = .ok (.putfield 23, 3) := by decide +kernel
theorem dX1_copy_40 : decode cX1_copy 40 = .ok (.aload_n 0, 1) := by decide +kernel
theorem dX1_copy_41 : decode cX1_copy 41 = .ok (.aload_n 1, 1) := by decide +kernel
theorem dX1_copy_42 : decode cX1_copy 42 = .ok (.getfield 26, 3) := by decide +kernel
theorem dX1_copy_45 : decode cX1_copy 45 = .ok (.putfield 26, 3) := by decide +kernel
theorem dX1_copy_48 : decode cX1_copy 48 = .ok (.return_, 1) := by decide +kernel
theorem dX1_fact_0 : decode cX1_fact 0 = .ok (.iload_n 1, 1) := by decide +kernel
theorem dX1_fact_1 : decode cX1_fact 1 = .ok (.tableswitch 59 0 3 #[31, 36, 41, 46], 31) := by decide +kernel
theorem dX1_fact_32 : decode cX1_fact 32 = .ok (.aload_n 0, 1) := by decide +kernel
theorem dX1_fact_33 : decode cX1_fact 33 = .ok (.getfield 7, 3) := by decide +kernel
theorem dX1_fact_36 : decode cX1_fact 36 = .ok (.ireturn, 1) := by decide +kernel
theorem dX1_fact_37 : decode cX1_fact 37 = .ok (.aload_n 0, 1) := by decide +kernel
theorem dX1_fact_38 : decode cX1_fact 38 = .ok (.getfield 13, 3) := by decide +kernel
theorem dX1_fact_41 : decode cX1_fact 41 = .ok (.ireturn, 1) := by decide +kernel
theorem dX1_fact_42 : decode cX1_fact 42 = .ok (.aload_n 0, 1) := by decide +kernel
theorem dX1_fact_43 : decode cX1_fact 43 = .ok (.getfield 16, 3) := by decide +kernel
theorem dX1_fact_46 : decode cX1_fact 46 = .ok (.ireturn, 1) := by decide +kernel
theorem dX1_fact_47 : decode cX1_fact 47 = .ok (.aload_n 0, 1) := by decide +kernel
theorem dX1_fact_48 : decode cX1_fact 48 = .ok (.getfield 19, 3) := by decide +kernel
theorem dX1_fact_51 : decode cX1_fact 51 = .ok (.ifCond .eq 7, 3) := by decide +kernel
theorem dX1_fact_54 : decode cX1_fact 54 = .ok (.iconst 1, 1) := by decide +kernel
theorem dX1_fact_55 : decode cX1_fact 55 = .ok (.goto 4, 3) := by decide +kernel
theorem dX1_fact_58 : decode cX1_fact 58 = .ok (.iconst 0, 1) := by decide +kernel
theorem dX1_fact_59 : decode cX1_fact 59 = .ok (.ireturn, 1) := by decide +kernel
theorem dX1_fact_60 : decode cX1_fact 60 = .ok (.aload_n 0, 1) := by decide +kernel
theorem dX1_fact_61 : decode cX1_fact 61 = .ok (.getfield 23, 3) := by decide +kernel
theorem dX1_fact_64 : decode cX1_fact 64 = .ok (.ireturn, 1) := by decide +kernel
theorem dX1_evenOut_0 : decode cX1_evenOut 0 = .ok (.aload_n 1, 1) := by decide +kernel
theorem dX1_evenOut_1 : decode cX1_evenOut 1 = .ok (.getfield 29, 3) := by decide +kernel
theorem dX1_evenOut_4 : decode cX1_evenOut 4 = .ok (.aload_n 2, 1) := by decide +kernel
theorem dX1_evenOut_5 : decode cX1_evenOut 5 = .ok (.getfield 29, 3) := by decide +kernel
theorem dX1_evenOut_8 : decode cX1_evenOut 8 = .ok (.iadd, 1) := by decide +kernel
theorem dX1_evenOut_9 : decode cX1_evenOut 9 = .ok (.istore_n 3, 1) := by decide +kernel
theorem dX1_evenOut_10 : decode cX1_evenOut 10 = .ok (.iload_n 3, 1) := by decide +kernel
theorem dX1_evenOut_11 : decode cX1_evenOut 11 = .ok (.ifCond .gt 4, 3) := by decide +kernel
theorem dX1_evenOut_14 : decode cX1_evenOut 14 = .ok (.return_, 1) := by decide +kernel
theorem dX1_evenOut_15 : decode cX1_evenOut 15 = .ok (.aload_n 1, 1) := by decide +kernel
theorem dX1_evenOut_16 : decode cX1_evenOut 16 = .ok (.getfield 34, 3) := by decide +kernel
theorem dX1_evenOut_19 : decode cX1_evenOut 19 = .ok (.aload_n 2, 1) := by decide +kernel
theorem dX1_evenOut_20 : decode cX1_evenOut 20 = .ok (.getfield 29, 3) := by decide +kernel
theorem dX1_evenOut_23 : decode cX1_evenOut 23 = .ok (.imul, 1) := by decide +kernel
theorem dX1_evenOut_24 : decode cX1_evenOut 24 = .ok (.aload_n 2, 1) := by decide +kernel
theorem dX1_evenOut_25 : decode cX1_evenOut 25 = .ok (.getfield 34, 3) := by decide +kernel
theorem dX1_evenOut_28 : decode cX1_evenOut 28 = .ok (.aload_n 1, 1) := by decide +kernel
theorem dX1_evenOut_29 : decode cX1_evenOut 29 = .ok (.getfield 29, 3) := by decide +kernel
theorem dX1_evenOut_32 : decode cX1_evenOut 32 = .ok (.imul, 1) := by decide +kernel
theorem dX1_evenOut_33 : decode cX1_evenOut 33 = .ok (.isub, 1) := by decide +kernel
theorem dX1_evenOut_34 : decode cX1_evenOut 34 = .ok (.iload_n 3, 1) := by decide +kernel
theorem dX1_evenOut_35 : decode cX1_evenOut 35 = .ok (.idiv, 1) := by decide +kernel
theorem dX1_evenOut_36 : decode cX1_evenOut 36 = .ok (.istore 4, 2) := by decide +kernel
theorem dX1_evenOut_38 : decode cX1_evenOut 38 = .ok (.aload_n 0, 1) := by decide +kernel
theorem dX1_evenOut_39 : decode cX1_evenOut 39 = .ok (.getfield 16, 3) := by decide +kernel
theorem dX1_evenOut_42 : decode cX1_evenOut 42 = .ok (.ineg, 1) := by decide +kernel
theorem dX1_evenOut_43 : decode cX1_evenOut 43 = .ok (.aload_n 0, 1) := by decide +kernel
theorem dX1_evenOut_44 : decode cX1_evenOut 44 = .ok (.getfield 16, 3) := by decide +kernel
theorem dX1_evenOut_47 : decode cX1_evenOut 47 = .ok (.iload 4, 2) := by decide +kernel
theorem dX1_evenOut_49 : decode cX1_evenOut 49 = .ok (.invokestatic 37, 3) := by decide +kernel
theorem dX1_evenOut_52 : decode cX1_evenOut 52 = .ok (.invokestatic 43, 3) := by decide +kernel
theorem dX1_evenOut_55 : decode cX1_evenOut 55 = .ok (.istore 5, 2) := by decide +kernel
theorem dX1_evenOut_57 : decode cX1_evenOut 57 = .ok (.aload_n 1, 1) := by decide +kernel
theorem dX1_evenOut_58 : decode cX1_evenOut 58 = .ok (.dup, 1) := by decide +kernel
theorem dX1_evenOut_59 : decode cX1_evenOut 59 = .ok (.getfield 34, 3) := by decide +kernel
theorem dX1_evenOut_62 : decode cX1_evenOut 62 = .ok (.iload 5, 2) := by decide +kernel
theorem dX1_evenOut_64 : decode cX1_evenOut 64 = .ok (.isub, 1) := by decide +kernel
theorem dX1_evenOut_65 : decode cX1_evenOut 65 = .ok (.putfield 34, 3) := by decide +kernel
theorem dX1_evenOut_68 : decode cX1_evenOut 68 = .ok (.aload_n 2, 1) := by decide +kernel
theorem dX1_evenOut_69 : decode cX1_evenOut 69 = .ok (.dup, 1) := by decide +kernel
theorem dX1_evenOut_70 : decode cX1_evenOut 70 = .ok (.getfield 34, 3) := by decide +kernel
theorem dX1_evenOut_73 : decode cX1_evenOut 73 = .ok (.iload 5, 2) := by decide +kernel
theorem dX1_evenOut_75 : decode cX1_evenOut 75 = .ok (.iadd, 1) := by decide +kernel
theorem dX1_evenOut_76 : decode cX1_evenOut 76 = .ok (.putfield 34, 3) := by decide +kernel
theorem dX1_evenOut_79 : decode cX1_evenOut 79 = .ok (.aload_n 0, 1) := by decide +kernel
theorem dX1_evenOut_80 : decode cX1_evenOut 80 = .ok (.dup, 1) := by decide +kernel
theorem dX1_evenOut_81 : decode cX1_evenOut 81 = .ok (.getfield 26, 3) := by decide +kernel
theorem dX1_evenOut_84 : decode cX1_evenOut 84 = .ok (.iload 5, 2) := by decide +kernel
theorem dX1_evenOut_86 : decode cX1_evenOut 86 = .ok (.iadd, 1) := by decide +kernel
theorem dX1_evenOut_87 : decode cX1_evenOut 87 = .ok (.putfield 26, 3) := by decide +kernel
theorem dX1_evenOut_90 : decode cX1_evenOut 90 = .ok (.aload_n 0, 1) := by decide +kernel
theorem dX1_evenOut_91 : decode cX1_evenOut 91 = .ok (.dup, 1) := by decide +kernel
theorem dX1_evenOut_92 : decode cX1_evenOut 92 = .ok (.getfield 23, 3) := by decide +kernel
theorem dX1_evenOut_95 : decode cX1_evenOut 95 = .ok (.iload 5, 2) := by decide +kernel
theorem dX1_evenOut_97 : decode cX1_evenOut 97 = .ok (.invokestatic 46, 3) := by decide +kernel
theorem dX1_evenOut_100 : decode cX1_evenOut 100 = .ok (.iadd, 1) := by decide +kernel
theorem dX1_evenOut_101 : decode cX1_evenOut 101 = .ok (.putfield 23, 3) := by decide +kernel
theorem dX1_evenOut_104 : decode cX1_evenOut 104 = .ok (.return_, 1) := by decide +kernel
theorem dX1_debt_0 : decode cX1_debt 0 = .ok (.iload_n 1, 1) := by decide +kernel
theorem dX1_debt_1 : decode cX1_debt 1 = .ok (.aload_n 0, 1) := by decide +kernel
theorem dX1_debt_2 : decode cX1_debt 2 = .ok (.getfield 13, 3) := by decide +kernel
theorem dX1_debt_5 : decode cX1_debt 5 = .ok (.if_icmp .ne 16, 3) := by decide +kernel
theorem dX1_debt_8 : decode cX1_debt 8 = .ok (.iload_n 2, 1) := by decide +kernel
theorem dX1_debt_9 : decode cX1_debt 9 = .ok (.aload_n 0, 1) := by decide +kernel
theorem dX1_debt_10 : decode cX1_debt 10 = .ok (.getfield 7, 3) := by decide +kernel
theorem dX1_debt_13 : decode cX1_debt 13 = .ok (.if_icmp .ne 8, 3) := by decide +kernel
theorem dX1_debt_16 : decode cX1_debt 16 = .ok (.aload_n 0, 1) := by decide +kernel
theorem dX1_debt_17 : decode cX1_debt 17 = .ok (.getfield 26, 3) := by decide +kernel
theorem dX1_debt_20 : decode cX1_debt 20 = .ok (.ireturn, 1) := by decide +kernel
theorem dX1_debt_21 : decode cX1_debt 21 = .ok (.iload_n 1, 1) := by decide +kernel
theorem dX1_debt_22 : decode cX1_debt 22 = .ok (.aload_n 0, 1) := by decide +kernel
theorem dX1_debt_23 : decode cX1_debt 23 = .ok (.getfield 7, 3) := by decide +kernel
theorem dX1_debt_26 : decode cX1_debt 26 = .ok (.if_icmp .ne 19, 3) := by decide +kernel
theorem dX1_debt_29 : decode cX1_debt 29 = .ok (.iload_n 2, 1) := by decide +kernel
theorem dX1_debt_30 : decode cX1_debt 30 = .ok (.aload_n 0, 1) := by decide +kernel
theorem dX1_debt_31 : decode cX1_debt 31 = .ok (.getfield 13, 3) := by decide +kernel
theorem dX1_debt_34 : decode cX1_debt 34 = .ok (.if_icmp .ne 11, 3) := by decide +kernel
theorem dX1_debt_37 : decode cX1_debt 37 = .ok (.aload_n 0, 1) := by decide +kernel
theorem dX1_debt_38 : decode cX1_debt 38 = .ok (.getfield 26, 3) := by decide +kernel
theorem dX1_debt_41 : decode cX1_debt 41 = .ok (.ineg, 1) := by decide +kernel
theorem dX1_debt_42 : decode cX1_debt 42 = .ok (.goto 4, 3) := by decide +kernel
theorem dX1_debt_45 : decode cX1_debt 45 = .ok (.iconst 0, 1) := by decide +kernel
theorem dX1_debt_46 : decode cX1_debt 46 = .ok (.ireturn, 1) := by decide +kernel
theorem dX2_init_0 : decode cX2_init 0 = .ok (.aload_n 0, 1) := by decide +kernel
theorem dX2_init_1 : decode cX2_init 1 = .ok (.invokespecial 3, 3) := by decide +kernel
theorem dX2_init_4 : decode cX2_init 4 = .ok (.aload_n 0, 1) := by decide +kernel
theorem dX2_init_5 : decode cX2_init 5 = .ok (.bipush 10, 2) := by decide +kernel
theorem dX2_init_7 : decode cX2_init 7 = .ok (.anewarray 11, 3) := by decide +kernel
theorem dX2_init_10 : decode cX2_init 10 = .ok (.putfield 13, 3) := by decide +kernel
theorem dX2_init_13 : decode cX2_init 13 = .ok (.aload_n 0, 1) := by decide +kernel
theorem dX2_init_14 : decode cX2_init 14 = .ok (.bipush 12, 2) := by decide +kernel
theorem dX2_init_16 : decode cX2_init 16 = .ok (.anewarray 17, 3) := by decide +kernel
theorem dX2_init_19 : decode cX2_init 19 = .ok (.putfield 19, 3) := by decide +kernel
theorem dX2_init_22 : decode cX2_init 22 = .ok (.aload_n 0, 1) := by decide +kernel
theorem dX2_init_23 : decode cX2_init 23 = .ok (.aload_n 1, 1) := by decide +kernel
theorem dX2_init_24 : decode cX2_init 24 = .ok (.putfield 23, 3) := by decide +kernel
theorem dX2_init_27 : decode cX2_init 27 = .ok (.iconst 0, 1) := by decide +kernel
theorem dX2_init_28 : decode cX2_init 28 = .ok (.istore_n 2, 1) := by decide +kernel
theorem dX2_init_29 : decode cX2_init 29 = .ok (.iload_n 2, 1) := by decide +kernel
theorem dX2_init_30 : decode cX2_init 30 = .ok (.bipush 10, 2) := by decide +kernel
theorem dX2_init_32 : decode cX2_init 32 = .ok (.if_icmp .ge 22, 3) := by decide +kernel
theorem dX2_init_35 : decode cX2_init 35 = .ok (.aload_n 0, 1) := by decide +kernel
theorem dX2_init_36 : decode cX2_init 36 = .ok (.getfield 13, 3) := by decide +kernel
theorem dX2_init_39 : decode cX2_init 39 = .ok (.iload_n 2, 1) := by decide +kernel
theorem dX2_init_40 : decode cX2_init 40 = .ok (.new 11, 3) := by decide +kernel
theorem dX2_init_43 : decode cX2_init 43 = .ok (.dup, 1) := by decide +kernel
theorem dX2_init_44 : decode cX2_init 44 = .ok (.invokespecial 27, 3) := by decide +kernel
theorem dX2_init_47 : decode cX2_init 47 = .ok (.aastore, 1) := by decide +kernel
theorem dX2_init_48 : decode cX2_init 48 = .ok (.iinc 2 1, 3) := by decide +kernel
theorem dX2_init_51 : decode cX2_init 51 = .ok (.goto (-22), 3) := by decide +kernel
theorem dX2_init_54 : decode cX2_init 54 = .ok (.iconst 0, 1) := by decide +kernel
theorem dX2_init_55 : decode cX2_init 55 = .ok (.istore_n 2, 1) := by decide +kernel
theorem dX2_init_56 : decode cX2_init 56 = .ok (.iload_n 2, 1) := by decide +kernel
theorem dX2_init_57 : decode cX2_init 57 = .ok (.bipush 12, 2) := by decide +kernel
theorem dX2_init_59 : decode cX2_init 59 = .ok (.if_icmp .ge 22, 3) := by decide +kernel
theorem dX2_init_62 : decode cX2_init 62 = .ok (.aload_n 0, 1) := by decide +kernel
theorem dX2_init_63 : decode cX2_init 63 = .ok (.getfield 19, 3) := by decide +kernel
theorem dX2_init_66 : decode cX2_init 66 = .ok (.iload_n 2, 1) := by decide +kernel
theorem dX2_init_67 : decode cX2_init 67 = .ok (.new 17, 3) := by decide +kernel
theorem dX2_init_70 : decode cX2_init 70 = .ok (.dup, 1) := by decide +kernel
theorem dX2_init_71 : decode cX2_init 71 = .ok (.invokespecial 28, 3) := by decide +kernel
theorem dX2_init_74 : decode cX2_init 74 = .ok (.aastore, 1) := by decide +kernel
theorem dX2_init_75 : decode cX2_init 75 = .ok (.iinc 2 1, 3) := by decide +kernel
theorem dX2_init_78 : decode cX2_init 78 = .ok (.goto (-22), 3) := by decide +kernel
theorem dX2_init_81 : decode cX2_init 81 = .ok (.return_, 1) := by decide +kernel
theorem dX2_copy_0 : decode cX2_copy 0 = .ok (.aload_n 0, 1) := by decide +kernel
theorem dX2_copy_1 : decode cX2_copy 1 = .ok (.aload_n 1, 1) := by decide +kernel
theorem dX2_copy_2 : decode cX2_copy 2 = .ok (.getfield 29, 3) := by decide +kernel
theorem dX2_copy_5 : decode cX2_copy 5 = .ok (.putfield 29, 3) := by decide +kernel
theorem dX2_copy_8 : decode cX2_copy 8 = .ok (.aload_n 0, 1) := by decide +kernel
theorem dX2_copy_9 : decode cX2_copy 9 = .ok (.aload_n 1, 1) := by decide +kernel
theorem dX2_copy_10 : decode cX2_copy 10 = .ok (.getfield 33, 3) := by decide +kernel
theorem dX2_copy_13 : decode cX2_copy 13 = .ok (.putfield 33, 3) := by decide +kernel
theorem dX2_copy_16 : decode cX2_copy 16 = .ok (.aload_n 0, 1) := by decide +kernel
theorem dX2_copy_17 : decode cX2_copy 17 = .ok (.aload_n 1, 1) := by decide +kernel
theorem dX2_copy_18 : decode cX2_copy 18 = .ok (.getfield 36, 3) := by decide +kernel
theorem dX2_copy_21 : decode cX2_copy 21 = .ok (.putfield 36, 3) := by decide +kernel
theorem dX2_copy_24 : decode cX2_copy 24 = .ok (.aload_n 0, 1) := by decide +kernel
theorem dX2_copy_25 : decode cX2_copy 25 = .ok (.aload_n 1, 1) := by decide +kernel
theorem dX2_copy_26 : decode cX2_copy 26 = .ok (.getfield 39, 3) := by decide +kernel
theorem dX2_copy_29 : decode cX2_copy 29 = .ok (.putfield 39, 3) := by decide +kernel
theorem dX2_copy_32 : decode cX2_copy 32 = .ok (.aload_n 0, 1) := by decide +kernel
theorem dX2_copy_33 : decode cX2_copy 33 = .ok (.aload_n 1, 1) := by decide +kernel
theorem dX2_copy_34 : decode cX2_copy 34 = .ok (.getfield 42, 3) := by decide +kernel
theorem dX2_copy_37 : decode cX2_copy 37 = .ok (.putfield 42, 3) := by decide +kernel
theorem dX2_copy_40 : decode cX2_copy 40 = .ok (.aload_n 0, 1) := by decide +kernel
theorem dX2_copy_41 : decode cX2_copy 41 = .ok (.aload_n 1, 1) := by decide +kernel
theorem dX2_copy_42 : decode cX2_copy 42 = .ok (.getfield 45, 3) := by decide +kernel
theorem dX2_copy_45 : decode cX2_copy 45 = .ok (.putfield 45, 3) := by decide +kernel
theorem dX2_copy_48 : decode cX2_copy 48 = .ok (.aload_n 0, 1) := by decide +kernel
theorem dX2_copy_49 : decode cX2_copy 49 = .ok (.aload_n 1, 1) := by decide +kernel
theorem dX2_copy_50 : decode cX2_copy 50 = .ok (.getfield 48, 3) := by decide +kernel
theorem dX2_copy_53 : decode cX2_copy 53 = .ok (.putfield 48, 3) := by decide +kernel
theorem dX2_copy_56 : decode cX2_copy 56 = .ok (.iconst 0, 1) := by decide +kernel
theorem dX2_copy_57 : decode cX2_copy 57 = .ok (.istore_n 2, 1) := by decide +kernel
theorem dX2_copy_58 : decode cX2_copy 58 = .ok (.iload_n 2, 1) := by decide +kernel
theorem dX2_copy_59 : decode cX2_copy 59 = .ok (.aload_n 0, 1) := by decide +kernel
theorem dX2_copy_60 : decode cX2_copy 60 = .ok (.getfield 29, 3) := by decide +kernel
theorem dX2_copy_63 : decode cX2_copy 63 = .ok (.if_icmp .ge 24, 3) := by decide +kernel
theorem dX2_copy_66 : decode cX2_copy 66 = .ok (.aload_n 0, 1) := by decide +kernel
theorem dX2_copy_67 : decode cX2_copy 67 = .ok (.getfield 13, 3) := by decide +kernel
theorem dX2_copy_70 : decode cX2_copy 70 = .ok (.iload_n 2, 1) := by decide +kernel
theorem dX2_copy_71 : decode cX2_copy 71 = .ok (.aaload, 1) := by decide +kernel
theorem dX2_copy_72 : decode cX2_copy 72 = .ok (.aload_n 1, 1) := by decide +kernel
theorem dX2_copy_73 : decode cX2_copy 73 = .ok (.getfield 13, 3) := by decide +kernel
theorem dX2_copy_76 : decode cX2_copy 76 = .ok (.iload_n 2, 1) := by decide +kernel
theorem dX2_copy_77 : decode cX2_copy 77 = .ok (.aaload, 1) := by decide +kernel
theorem dX2_copy_78 : decode cX2_copy 78 = .ok (.invokevirtual 51, 3) := by decide +kernel
theorem dX2_copy_81 : decode cX2_copy 81 = .ok (.iinc 2 1, 3) := by decide +kernel
theorem dX2_copy_84 : decode cX2_copy 84 = .ok (.goto (-26), 3) := by decide +kernel
theorem dX2_copy_87 : decode cX2_copy 87 = .ok (.iconst 0, 1) := by decide +kernel
theorem dX2_copy_88 : decode cX2_copy 88 = .ok (.istore_n 2, 1) := by decide +kernel
theorem dX2_copy_89 : decode cX2_copy 89 = .ok (.iload_n 2, 1) := by decide +kernel
theorem dX2_copy_90 : decode cX2_copy 90 = .ok (.aload_n 0, 1) := by decide +kernel
theorem dX2_copy_91 : decode cX2_copy 91 = .ok (.getfield 33, 3) := by decide +kernel
theorem dX2_copy_94 : decode cX2_copy 94 = .ok (.if_icmp .ge 24, 3) := by decide +kernel
theorem dX2_copy_97 : decode cX2_copy 97 = .ok (.aload_n 0, 1) := by decide +kernel
theorem dX2_copy_98 : decode cX2_copy 98 = .ok (.getfield 19, 3) := by decide +kernel
theorem dX2_copy_101 : decode cX2_copy 101 = .ok (.iload_n 2, 1) := by decide +kernel
theorem dX2_copy_102 : decode cX2_copy 102 = .ok (.aaload, 1) := by decide +kernel
theorem dX2_copy_103 : decode cX2_copy 103 = .ok (.aload_n 1, 1) := by decide +kernel
theorem dX2_copy_104 : decode cX2_copy 104 = .ok (.getfield 19, 3) := by decide +kernel
theorem dX2_copy_107 : decode cX2_copy 107 = .ok (.iload_n 2, 1) := by decide +kernel
theorem dX2_copy_108 : decode cX2_copy 108 = .ok (.aaload, 1) := by decide +kernel
theorem dX2_copy_109 : decode cX2_copy 109 = .ok (.invokevirtual 55, 3) := by decide +kernel
theorem dX2_copy_112 : decode cX2_copy 112 = .ok (.iinc 2 1, 3) := by decide +kernel
theorem dX2_copy_115 : decode cX2_copy 115 = .ok (.goto (-26), 3) := by decide +kernel
theorem dX2_copy_118 : decode cX2_copy 118 = .ok (.return_, 1) := by decide +kernel
theorem dX2_hasHouse_0 : decode cX2_hasHouse 0 = .ok (.iload_n 1, 1) := by decide +kernel
theorem dX2_hasHouse_1 : decode cX2_hasHouse 1 = .ok (.ifCond .lt 15, 3) := by decide +kernel
theorem dX2_hasHouse_4 : decode cX2_hasHouse 4 = .ok (.iload_n 1, 1) := by decide +kernel
theorem dX2_hasHouse_5 : decode cX2_hasHouse 5 = .ok (.aload_n 0, 1) := by decide +kernel
theorem dX2_hasHouse_6 : decode cX2_hasHouse 6 = .ok (.getfield 29, 3) := by decide +kernel
theorem dX2_hasHouse_9 : decode cX2_hasHouse 9 = .ok (.if_icmp .ge 7, 3) := by decide +kernel
theorem dX2_hasHouse_12 : decode cX2_hasHouse 12 = .ok (.iconst 1, 1) := by decide +kernel
theorem dX2_hasHouse_13 : decode cX2_hasHouse 13 = .ok (.goto 4, 3) := by decide +kernel
theorem dX2_hasHouse_16 : decode cX2_hasHouse 16 = .ok (.iconst 0, 1) := by decide +kernel
theorem dX2_hasHouse_17 : decode cX2_hasHouse 17 = .ok (.ireturn, 1) := by decide +kernel
theorem dX2_hasPipe_0 : decode cX2_hasPipe 0 = .ok (.iload_n 1, 1) := by decide +kernel
theorem dX2_hasPipe_1 : decode cX2_hasPipe 1 = .ok (.ifCond .lt 15, 3) := by decide +kernel
theorem dX2_hasPipe_4 : decode cX2_hasPipe 4 = .ok (.iload_n 1, 1) := by decide +kernel
theorem dX2_hasPipe_5 : decode cX2_hasPipe 5 = .ok (.aload_n 0, 1) := by decide +kernel
theorem dX2_hasPipe_6 : decode cX2_hasPipe 6 = .ok (.getfield 33, 3) := by decide +kernel
theorem dX2_hasPipe_9 : decode cX2_hasPipe 9 = .ok (.if_icmp .ge 7, 3) := by decide +kernel
theorem dX2_hasPipe_12 : decode cX2_hasPipe 12 = .ok (.iconst 1, 1) := by decide +kernel
theorem dX2_hasPipe_13 : decode cX2_hasPipe 13 = .ok (.goto 4, 3) := by decide +kernel
theorem dX2_hasPipe_16 : decode cX2_hasPipe 16 = .ok (.iconst 0, 1) := by decide +kernel
theorem dX2_hasPipe_17 : decode cX2_hasPipe 17 = .ok (.ireturn, 1) := by decide +kernel
theorem dX2_addHouse_0 : decode cX2_addHouse 0 = .ok (.aload_n 0, 1) := by decide +kernel
theorem dX2_addHouse_1 : decode cX2_addHouse 1 = .ok (.getfield 13, 3) := by decide +kernel
theorem dX2_addHouse_4 : decode cX2_addHouse 4 = .ok (.aload_n 0, 1) := by decide +kernel
theorem dX2_addHouse_5 : decode cX2_addHouse 5 = .ok (.getfield 29, 3) := by decide +kernel
theorem dX2_addHouse_8 : decode cX2_addHouse 8 = .ok (.aaload, 1) := by decide +kernel
theorem dX2_addHouse_9 : decode cX2_addHouse 9 = .ok (.astore 5, 2) := by decide +kernel
theorem dX2_addHouse_11 : decode cX2_addHouse 11 = .ok (.aload 5, 2) := by decide +kernel
theorem dX2_addHouse_13 : decode cX2_addHouse 13 = .ok (.iload_n 1, 1) := by decide +kernel
theorem dX2_addHouse_14 : decode cX2_addHouse 14 = .ok (.putfield 58, 3) := by decide +kernel
theorem dX2_addHouse_17 : decode cX2_addHouse 17 = .ok (.aload 5, 2) := by decide +kernel
theorem dX2_addHouse_19 : decode cX2_addHouse 19 = .ok (.iload_n 2, 1) := by decide +kernel
theorem dX2_addHouse_20 : decode cX2_addHouse 20 = .ok (.putfield 61, 3) := by decide +kernel
theorem dX2_addHouse_23 : decode cX2_addHouse 23 = .ok (.aload 5, 2) := by decide +kernel
theorem dX2_addHouse_25 : decode cX2_addHouse 25 = .ok (.iload_n 3, 1) := by decide +kernel
theorem dX2_addHouse_26 : decode cX2_addHouse 26 = .ok (.putfield 64, 3) := by decide +kernel
theorem dX2_addHouse_29 : decode cX2_addHouse 29 = .ok (.aload 5, 2) := by decide +kernel
theorem dX2_addHouse_31 : decode cX2_addHouse 31 = .ok (.iload 4, 2) := by decide +kernel
theorem dX2_addHouse_33 : decode cX2_addHouse 33 = .ok (.putfield 67, 3) := by decide +kernel
theorem dX2_addHouse_36 : decode cX2_addHouse 36 = .ok (.aload_n 0, 1) := by decide +kernel
theorem dX2_addHouse_37 : decode cX2_addHouse 37 = .ok (.dup, 1) := by decide +kernel
theorem dX2_addHouse_38 : decode cX2_addHouse 38 = .ok (.getfield 29, 3) := by decide +kernel
theorem dX2_addHouse_41 : decode cX2_addHouse 41 = .ok (.dup_x1, 1) := by decide +kernel
theorem dX2_addHouse_42 : decode cX2_addHouse 42 = .ok (.iconst 1, 1) := by decide +kernel
theorem dX2_addHouse_43 : decode cX2_addHouse 43 = .ok (.iadd, 1) := by decide +kernel
theorem dX2_addHouse_44 : decode cX2_addHouse 44 = .ok (.putfield 29, 3) := by decide +kernel
theorem dX2_addHouse_47 : decode cX2_addHouse 47 = .ok (.ireturn, 1) := by decide +kernel
theorem dX2_addPipe_0 : decode cX2_addPipe 0 = .ok (.aload_n 0, 1) := by decide +kernel
theorem dX2_addPipe_1 : decode cX2_addPipe 1 = .ok (.getfield 19, 3) := by decide +kernel
theorem dX2_addPipe_4 : decode cX2_addPipe 4 = .ok (.aload_n 0, 1) := by decide +kernel
theorem dX2_addPipe_5 : decode cX2_addPipe 5 = .ok (.getfield 33, 3) := by decide +kernel
theorem dX2_addPipe_8 : decode cX2_addPipe 8 = .ok (.aaload, 1) := by decide +kernel
theorem dX2_addPipe_9 : decode cX2_addPipe 9 = .ok (.astore 4, 2) := by decide +kernel
theorem dX2_addPipe_11 : decode cX2_addPipe 11 = .ok (.aload 4, 2) := by decide +kernel
theorem dX2_addPipe_13 : decode cX2_addPipe 13 = .ok (.iload_n 1, 1) := by decide +kernel
theorem dX2_addPipe_14 : decode cX2_addPipe 14 = .ok (.putfield 70, 3) := by decide +kernel
theorem dX2_addPipe_17 : decode cX2_addPipe 17 = .ok (.aload 4, 2) := by decide +kernel
theorem dX2_addPipe_19 : decode cX2_addPipe 19 = .ok (.iload_n 2, 1) := by decide +kernel
theorem dX2_addPipe_20 : decode cX2_addPipe 20 = .ok (.putfield 73, 3) := by decide +kernel
theorem dX2_addPipe_23 : decode cX2_addPipe 23 = .ok (.aload 4, 2) := by decide +kernel
theorem dX2_addPipe_25 : decode cX2_addPipe 25 = .ok (.iload_n 3, 1) := by decide +kernel
theorem dX2_addPipe_26 : decode cX2_addPipe 26 = .ok (.putfield 76, 3) := by decide +kernel
theorem dX2_addPipe_29 : decode cX2_addPipe 29 = .ok (.aload 4, 2) := by decide +kernel
theorem dX2_addPipe_31 : decode cX2_addPipe 31 = .ok (.iconst 1, 1) := by decide +kernel
theorem dX2_addPipe_32 : decode cX2_addPipe 32 = .ok (.putfield 79, 3) := by decide +kernel
theorem dX2_addPipe_35 : decode cX2_addPipe 35 = .ok (.aload_n 0, 1) := by decide +kernel
theorem dX2_addPipe_36 : decode cX2_addPipe 36 = .ok (.dup, 1) := by decide +kernel
theorem dX2_addPipe_37 : decode cX2_addPipe 37 = .ok (.getfield 33, 3) := by decide +kernel
theorem dX2_addPipe_40 : decode cX2_addPipe 40 = .ok (.dup_x1, 1) := by decide +kernel
theorem dX2_addPipe_41 : decode cX2_addPipe 41 = .ok (.iconst 1, 1) := by decide +kernel
theorem dX2_addPipe_42 : decode cX2_addPipe 42 = .ok (.iadd, 1) := by decide +kernel
theorem dX2_addPipe_43 : decode cX2_addPipe 43 = .ok (.putfield 33, 3) := by decide +kernel
theorem dX2_addPipe_46 : decode cX2_addPipe 46 = .ok (.ireturn, 1) := by decide +kernel
theorem dX2_flowsThrough_0 : decode cX2_flowsThrough 0 = .ok (.iload_n 1, 1) := by decide +kernel
theorem dX2_flowsThrough_1 : decode cX2_flowsThrough 1 = .ok (.istore_n 3, 1) := by decide +kernel
theorem dX2_flowsThrough_2 : decode cX2_flowsThrough 2 = .ok (.iconst 0, 1) := by decide +kernel
theorem dX2_flowsThrough_3 : decode cX2_flowsThrough 3 = .ok (.istore 4, 2) := by decide +kernel
theorem dX2_flowsThrough_5 : decode cX2_flowsThrough 5 = .ok (.iload 4, 2) := by decide +kernel
theorem dX2_flowsThrough_7 : decode cX2_flowsThrough 7 = .ok (.aload_n 0, 1) := by decide +kernel
theorem dX2_flowsThrough_8 : decode cX2_flowsThrough 8 = .ok (.getfield 29, 3) := by decide +kernel
theorem dX2_flowsThrough_11 : decode cX2_flowsThrough 11 = .ok (.if_icmp .ge 34, 3) := by decide +kernel
theorem dX2_flowsThrough_14 : decode cX2_flowsThrough 14 = .ok (.aload_n 0, 1) := by decide +kernel
theorem dX2_flowsThrough_15 : decode cX2_flowsThrough 15 = .ok (.iload_n 3, 1) := by decide +kernel
theorem dX2_flowsThrough_16 : decode cX2_flowsThrough 16 = .ok (.invokevirtual 83, 3) := by decide +kernel
theorem dX2_flowsThrough_19 : decode cX2_flowsThrough 19 = .ok (.ifCond .eq 26, 3) := by decide +kernel
theorem dX2_flowsThrough_22 : decode cX2_flowsThrough 22 = .ok (.iload_n 3, 1) := by decide +kernel
theorem dX2_flowsThrough_23 : decode cX2_flowsThrough 23 = .ok (.iload_n 2, 1) := by decide +kernel
theorem dX2_flowsThrough_24 : decode cX2_flowsThrough 24 = .ok (.if_icmp .ne 5, 3) := by decide +kernel
theorem dX2_flowsThrough_27 : decode cX2_flowsThrough 27 = .ok (.iconst 1, 1) := by decide +kernel
theorem dX2_flowsThrough_28 : decode cX2_flowsThrough 28 = .ok (.ireturn, 1) := by decide +kernel
theorem dX2_flowsThrough_29 : decode cX2_flowsThrough 29 = .ok (.aload_n 0, 1) := by decide +kernel
theorem dX2_flowsThrough_30 : decode cX2_flowsThrough 30 = .ok (.getfield 13, 3) := by decide +kernel
theorem dX2_flowsThrough_33 : decode cX2_flowsThrough 33 = .ok (.iload_n 3, 1) := by decide +kernel
theorem dX2_flowsThrough_34 : decode cX2_flowsThrough 34 = .ok (.aaload, 1) := by decide +kernel
theorem dX2_flowsThrough_35 : decode cX2_flowsThrough 35 = .ok (.getfield 87, 3) := by decide +kernel
theorem dX2_flowsThrough_38 : decode cX2_flowsThrough 38 = .ok (.istore_n 3, 1) := by decide +kernel
theorem dX2_flowsThrough_39 : decode cX2_flowsThrough 39 = .ok (.iinc 4 1, 3) := by decide +kernel
theorem dX2_flowsThrough_42 : decode cX2_flowsThrough 42 = .ok (.goto (-37), 3) := by decide +kernel
theorem dX2_flowsThrough_45 : decode cX2_flowsThrough 45 = .ok (.iconst 0, 1) := by decide +kernel
theorem dX2_flowsThrough_46 : decode cX2_flowsThrough 46 = .ok (.ireturn, 1) := by decide +kernel
theorem dX2_chainLength_0 : decode cX2_chainLength 0 = .ok (.iconst 0, 1) := by decide +kernel
theorem dX2_chainLength_1 : decode cX2_chainLength 1 = .ok (.istore_n 2, 1) := by decide +kernel
theorem dX2_chainLength_2 : decode cX2_chainLength 2 = .ok (.iload_n 1, 1) := by decide +kernel
theorem dX2_chainLength_3 : decode cX2_chainLength 3 = .ok (.istore_n 3, 1) := by decide +kernel
theorem dX2_chainLength_4 : decode cX2_chainLength 4 = .ok (.iload_n 2, 1) := by decide +kernel
theorem dX2_chainLength_5 : decode cX2_chainLength 5 = .ok (.aload_n 0, 1) := by decide +kernel
theorem dX2_chainLength_6 : decode cX2_chainLength 6 = .ok (.getfield 29, 3) := by decide +kernel
theorem dX2_chainLength_9 : decode cX2_chainLength 9 = .ok (.if_icmp .ge 27, 3) := by decide +kernel
theorem dX2_chainLength_12 : decode cX2_chainLength 12 = .ok (.aload_n 0, 1) := by decide +kernel
theorem dX2_chainLength_13 : decode cX2_chainLength 13 = .ok (.iload_n 3, 1) := by decide +kernel
theorem dX2_chainLength_14 : decode cX2_chainLength 14 = .ok (.invokevirtual 83, 3) := by decide +kernel
theorem dX2_chainLength_17 : decode cX2_chainLength 17 = .ok (.ifCond .eq 19, 3) := by decide +kernel
theorem dX2_chainLength_20 : decode cX2_chainLength 20 = .ok (.iinc 2 1, 3) := by decide +kernel
theorem dX2_chainLength_23 : decode cX2_chainLength 23 = .ok (.aload_n 0, 1) := by decide +kernel
theorem dX2_chainLength_24 : decode cX2_chainLength 24 = .ok (.getfield 13, 3) := by decide +kernel
theorem dX2_chainLength_27 : decode cX2_chainLength 27 = .ok (.iload_n 3, 1) := by decide +kernel
theorem dX2_chainLength_28 : decode cX2_chainLength 28 = .ok (.aaload, 1) := by decide +kernel
theorem dX2_chainLength_29 : decode cX2_chainLength 29 = .ok (.getfield 87, 3) := by decide +kernel
theorem dX2_chainLength_32 : decode cX2_chainLength 32 = .ok (.istore_n 3, 1) := by decide +kernel
theorem dX2_chainLength_33 : decode cX2_chainLength 33 = .ok (.goto (-29), 3) := by decide +kernel
theorem dX2_chainLength_36 : decode cX2_chainLength 36 = .ok (.iload_n 2, 1) := by decide +kernel
theorem dX2_chainLength_37 : decode cX2_chainLength 37 = .ok (.ireturn, 1) := by decide +kernel
theorem dX2_pour_0 : decode cX2_pour 0 = .ok (.iload_n 2, 1) := by decide +kernel
theorem dX2_pour_1 : decode cX2_pour 1 = .ok (.istore_n 3, 1) := by decide +kernel
theorem dX2_pour_2 : decode cX2_pour 2 = .ok (.iload_n 1, 1) := by decide +kernel
theorem dX2_pour_3 : decode cX2_pour 3 = .ok (.istore 4, 2) := by decide +kernel
theorem dX2_pour_5 : decode cX2_pour 5 = .ok (.iconst 0, 1) := by decide +kernel
theorem dX2_pour_6 : decode cX2_pour 6 = .ok (.istore 5, 2) := by decide +kernel
theorem dX2_pour_8 : decode cX2_pour 8 = .ok (.iload 5, 2) := by decide +kernel
theorem dX2_pour_10 : decode cX2_pour 10 = .ok (.aload_n 0, 1) := by decide +kernel
theorem dX2_pour_11 : decode cX2_pour 11 = .ok (.getfield 29, 3) := by decide +kernel
theorem dX2_pour_14 : decode cX2_pour 14 = .ok (.if_icmp .ge 42, 3) := by decide +kernel
theorem dX2_pour_17 : decode cX2_pour 17 = .ok (.aload_n 0, 1) := by decide +kernel
theorem dX2_pour_18 : decode cX2_pour 18 = .ok (.iload 4, 2) := by decide +kernel
theorem dX2_pour_20 : decode cX2_pour 20 = .ok (.invokevirtual 83, 3) := by decide +kernel
theorem dX2_pour_23 : decode cX2_pour 23 = .ok (.ifCond .eq 33, 3) := by decide +kernel
theorem dX2_pour_26 : decode cX2_pour 26 = .ok (.aload_n 0, 1) := by decide +kernel
theorem dX2_pour_27 : decode cX2_pour 27 = .ok (.getfield 13, 3) := by decide +kernel
theorem dX2_pour_30 : decode cX2_pour 30 = .ok (.iload 4, 2) := by decide +kernel
theorem dX2_pour_32 : decode cX2_pour 32 = .ok (.aaload, 1) := by decide +kernel
theorem dX2_pour_33 : decode cX2_pour 33 = .ok (.iload_n 3, 1) := by decide +kernel
theorem dX2_pour_34 : decode cX2_pour 34 = .ok (.invokevirtual 90, 3) := by decide +kernel
theorem dX2_pour_37 : decode cX2_pour 37 = .ok (.istore_n 3, 1) := by decide +kernel
theorem dX2_pour_38 : decode cX2_pour 38 = .ok (.aload_n 0, 1) := by decide +kernel
theorem dX2_pour_39 : decode cX2_pour 39 = .ok (.getfield 13, 3) := by decide +kernel
theorem dX2_pour_42 : decode cX2_pour 42 = .ok (.iload 4, 2) := by decide +kernel
theorem dX2_pour_44 : decode cX2_pour 44 = .ok (.aaload, 1) := by decide +kernel
theorem dX2_pour_45 : decode cX2_pour 45 = .ok (.getfield 87, 3) := by decide +kernel
theorem dX2_pour_48 : decode cX2_pour 48 = .ok (.istore 4, 2) := by decide +kernel
theorem dX2_pour_50 : decode cX2_pour 50 = .ok (.iinc 5 1, 3) := by decide +kernel
theorem dX2_pour_53 : decode cX2_pour 53 = .ok (.goto (-45), 3) := by decide +kernel
theorem dX2_pour_56 : decode cX2_pour 56 = .ok (.aload_n 0, 1) := by decide +kernel
theorem dX2_pour_57 : decode cX2_pour 57 = .ok (.dup, 1) := by decide +kernel
theorem dX2_pour_58 : decode cX2_pour 58 = .ok (.getfield 42, 3) := by decide +kernel
theorem dX2_pour_61 : decode cX2_pour 61 = .ok (.iload_n 3, 1) := by decide +kernel
theorem dX2_pour_62 : decode cX2_pour 62 = .ok (.iadd, 1) := by decide +kernel
theorem dX2_pour_63 : decode cX2_pour 63 = .ok (.putfield 42, 3) := by decide +kernel
theorem dX2_pour_66 : decode cX2_pour 66 = .ok (.iload_n 3, 1) := by decide +kernel
theorem dX2_pour_67 : decode cX2_pour 67 = .ok (.ireturn, 1) := by decide +kernel
theorem dX2_live_0 : decode cX2_live 0 = .ok (.aload_n 0, 1) := by decide +kernel
theorem dX2_live_1 : decode cX2_live 1 = .ok (.invokevirtual 94, 3) := by decide +kernel
theorem dX2_live_4 : decode cX2_live 4 = .ok (.istore_n 2, 1) := by decide +kernel
theorem dX2_live_5 : decode cX2_live 5 = .ok (.iconst 0, 1) := by decide +kernel
theorem dX2_live_6 : decode cX2_live 6 = .ok (.istore_n 3, 1) := by decide +kernel
theorem dX2_live_7 : decode cX2_live 7 = .ok (.iload_n 3, 1) := by decide +kernel
theorem dX2_live_8 : decode cX2_live 8 = .ok (.iload_n 1, 1) := by decide +kernel
theorem dX2_live_9 : decode cX2_live 9 = .ok (.if_icmp .ge 13, 3) := by decide +kernel
theorem dX2_live_12 : decode cX2_live 12 = .ok (.aload_n 0, 1) := by decide +kernel
theorem dX2_live_13 : decode cX2_live 13 = .ok (.invokevirtual 98, 3) := by decide +kernel
theorem dX2_live_16 : decode cX2_live 16 = .ok (.iinc 3 1, 3) := by decide +kernel
theorem dX2_live_19 : decode cX2_live 19 = .ok (.goto (-12), 3) := by decide +kernel
theorem dX2_live_22 : decode cX2_live 22 = .ok (.aload_n 0, 1) := by decide +kernel
theorem dX2_live_23 : decode cX2_live 23 = .ok (.invokevirtual 94, 3) := by decide +kernel
theorem dX2_live_26 : decode cX2_live 26 = .ok (.iload_n 2, 1) := by decide +kernel
theorem dX2_live_27 : decode cX2_live 27 = .ok (.isub, 1) := by decide +kernel
theorem dX2_live_28 : decode cX2_live 28 = .ok (.ireturn, 1) := by decide +kernel
theorem dX2_daysToThirst_0 : decode cX2_daysToThirst 0 = .ok (.aload_n 0, 1) := by decide +kernel
theorem dX2_daysToThirst_1 : decode cX2_daysToThirst 1 = .ok (.getfield 13, 3) := by decide +kernel
theorem dX2_daysToThirst_4 : decode cX2_daysToThirst 4 = .ok (.iload_n 1, 1) := by decide +kernel
theorem dX2_daysToThirst_5 : decode cX2_daysToThirst 5 = .ok (.aaload, 1) := by decide +kernel
theorem dX2_daysToThirst_6 : decode cX2_daysToThirst 6 = .ok (.astore_n 3, 1) := by decide +kernel
theorem dX2_daysToThirst_7 : decode cX2_daysToThirst 7 = .ok (.aload_n 3, 1) := by decide +kernel
theorem dX2_daysToThirst_8 : decode cX2_daysToThirst 8 = .ok (.getfield 101, 3) := by decide +kernel
theorem dX2_daysToThirst_11 : decode cX2_daysToThirst 11 = .ok (.istore 4, 2) := by decide +kernel
theorem dX2_daysToThirst_13 : decode cX2_daysToThirst 13 = .ok (.iconst 1, 1) := by decide +kernel
theorem dX2_daysToThirst_14 : decode cX2_daysToThirst 14 = .ok (.istore 5, 2) := by decide +kernel
theorem dX2_daysToThirst_16 : decode cX2_daysToThirst 16 = .ok (.iload 5, 2) := by decide +kernel
theorem dX2_daysToThirst_18 : decode cX2_daysToThirst 18 = .ok (.iload_n 2, 1) := by decide +kernel
theorem dX2_daysToThirst_19 : decode cX2_daysToThirst 19 = .ok (.if_icmp .gt 25, 3) := by decide +kernel
theorem dX2_daysToThirst_22 : decode cX2_daysToThirst 22 = .ok (.aload_n 0, 1) := by decide +kernel
theorem dX2_daysToThirst_23 : decode cX2_daysToThirst 23 = .ok (.invokevirtual 98, 3) := by decide +kernel
theorem dX2_daysToThirst_26 : decode cX2_daysToThirst 26 = .ok (.aload_n 3, 1) := by decide +kernel
theorem dX2_daysToThirst_27 : decode cX2_daysToThirst 27 = .ok (.getfield 101, 3) := by decide +kernel
theorem dX2_daysToThirst_30 : decode cX2_daysToThirst 30 = .ok (.iload 4, 2) := by decide +kernel
theorem dX2_daysToThirst_32 : decode cX2_daysToThirst 32 = .ok (.if_icmp .eq 6, 3) := by decide +kernel
theorem dX2_daysToThirst_35 : decode cX2_daysToThirst 35 = .ok (.iload 5, 2) := by decide +kernel
theorem dX2_daysToThirst_37 : decode cX2_daysToThirst 37 = .ok (.ireturn, 1) := by decide +kernel
theorem dX2_daysToThirst_38 : decode cX2_daysToThirst 38 = .ok (.iinc 5 1, 3) := by decide +kernel
theorem dX2_daysToThirst_41 : decode cX2_daysToThirst 41 = .ok (.goto (-25), 3) := by decide +kernel
theorem dX2_daysToThirst_44 : decode cX2_daysToThirst 44 = .ok (.iconst (-1), 1) := by decide +kernel
theorem dX2_daysToThirst_45 : decode cX2_daysToThirst 45 = .ok (.ireturn, 1) := by decide +kernel
theorem dX2_liveDay_0 : decode cX2_liveDay 0 = .ok (.aload_n 0, 1) := by decide +kernel
theorem dX2_liveDay_1 : decode cX2_liveDay 1 = .ok (.aload_n 0, 1) := by decide +kernel
theorem dX2_liveDay_2 : decode cX2_liveDay 2 = .ok (.getfield 23, 3) := by decide +kernel
theorem dX2_liveDay_5 : decode cX2_liveDay 5 = .ok (.aload_n 0, 1) := by decide +kernel
theorem dX2_liveDay_6 : decode cX2_liveDay 6 = .ok (.getfield 36, 3) := by decide +kernel
theorem dX2_liveDay_9 : decode cX2_liveDay 9 = .ok (.invokevirtual 104, 3) := by decide +kernel
theorem dX2_liveDay_12 : decode cX2_liveDay 12 = .ok (.invokevirtual 109, 3) := by decide +kernel
theorem dX2_liveDay_15 : decode cX2_liveDay 15 = .ok (.iconst 0, 1) := by decide +kernel
theorem dX2_liveDay_16 : decode cX2_liveDay 16 = .ok (.istore_n 1, 1) := by decide +kernel
theorem dX2_liveDay_17 : decode cX2_liveDay 17 = .ok (.iload_n 1, 1) := by decide +kernel
theorem dX2_liveDay_18 : decode cX2_liveDay 18 = .ok (.aload_n 0, 1) := by decide +kernel
theorem dX2_liveDay_19 : decode cX2_liveDay 19 = .ok (.getfield 29, 3) := by decide +kernel
theorem dX2_liveDay_22 : decode cX2_liveDay 22 = .ok (.if_icmp .ge 27, 3) := by decide +kernel
theorem dX2_liveDay_25 : decode cX2_liveDay 25 = .ok (.aload_n 0, 1) := by decide +kernel
theorem dX2_liveDay_26 : decode cX2_liveDay 26 = .ok (.dup, 1) := by decide +kernel
theorem dX2_liveDay_27 : decode cX2_liveDay 27 = .ok (.getfield 45, 3) := by decide +kernel
theorem dX2_liveDay_30 : decode cX2_liveDay 30 = .ok (.aload_n 0, 1) := by decide +kernel
theorem dX2_liveDay_31 : decode cX2_liveDay 31 = .ok (.getfield 13, 3) := by decide +kernel
theorem dX2_liveDay_34 : decode cX2_liveDay 34 = .ok (.iload_n 1, 1) := by decide +kernel
theorem dX2_liveDay_35 : decode cX2_liveDay 35 = .ok (.aaload, 1) := by decide +kernel
theorem dX2_liveDay_36 : decode cX2_liveDay 36 = .ok (.invokevirtual 113, 3) := by decide +kernel
theorem dX2_liveDay_39 : decode cX2_liveDay 39 = .ok (.iadd, 1) := by decide +kernel
theorem dX2_liveDay_40 : decode cX2_liveDay 40 = .ok (.putfield 45, 3) := by decide +kernel
theorem dX2_liveDay_43 : decode cX2_liveDay 43 = .ok (.iinc 1 1, 3) := by decide +kernel
theorem dX2_liveDay_46 : decode cX2_liveDay 46 = .ok (.goto (-29), 3) := by decide +kernel
theorem dX2_liveDay_49 : decode cX2_liveDay 49 = .ok (.iconst 0, 1) := by decide +kernel
theorem dX2_liveDay_50 : decode cX2_liveDay 50 = .ok (.istore_n 1, 1) := by decide +kernel
theorem dX2_liveDay_51 : decode cX2_liveDay 51 = .ok (.iload_n 1, 1) := by decide +kernel
theorem dX2_liveDay_52 : decode cX2_liveDay 52 = .ok (.aload_n 0, 1) := by decide +kernel
theorem dX2_liveDay_53 : decode cX2_liveDay 53 = .ok (.getfield 29, 3) := by decide +kernel
theorem dX2_liveDay_56 : decode cX2_liveDay 56 = .ok (.if_icmp .ge 18, 3) := by decide +kernel
theorem dX2_liveDay_59 : decode cX2_liveDay 59 = .ok (.aload_n 0, 1) := by decide +kernel
theorem dX2_liveDay_60 : decode cX2_liveDay 60 = .ok (.getfield 13, 3) := by decide +kernel
theorem dX2_liveDay_63 : decode cX2_liveDay 63 = .ok (.iload_n 1, 1) := by decide +kernel
theorem dX2_liveDay_64 : decode cX2_liveDay 64 = .ok (.aaload, 1) := by decide +kernel
theorem dX2_liveDay_65 : decode cX2_liveDay 65 = .ok (.invokevirtual 116, 3) := by decide +kernel
theorem dX2_liveDay_68 : decode cX2_liveDay 68 = .ok (.iinc 1 1, 3) := by decide +kernel
theorem dX2_liveDay_71 : decode cX2_liveDay 71 = .ok (.goto (-20), 3) := by decide +kernel
theorem dX2_liveDay_74 : decode cX2_liveDay 74 = .ok (.aload_n 0, 1) := by decide +kernel
theorem dX2_liveDay_75 : decode cX2_liveDay 75 = .ok (.invokevirtual 119, 3) := by decide +kernel
theorem dX2_liveDay_78 : decode cX2_liveDay 78 = .ok (.aload_n 0, 1) := by decide +kernel
theorem dX2_liveDay_79 : decode cX2_liveDay 79 = .ok (.getfield 23, 3) := by decide +kernel
theorem dX2_liveDay_82 : decode cX2_liveDay 82 = .ok (.aload_n 0, 1) := by decide +kernel
theorem dX2_liveDay_83 : decode cX2_liveDay 83 = .ok (.getfield 36, 3) := by decide +kernel
theorem dX2_liveDay_86 : decode cX2_liveDay 86 = .ok (.invokevirtual 122, 3) := by decide +kernel
theorem dX2_liveDay_89 : decode cX2_liveDay 89 = .ok (.istore_n 1, 1) := by decide +kernel
theorem dX2_liveDay_90 : decode cX2_liveDay 90 = .ok (.iconst 0, 1) := by decide +kernel
theorem dX2_liveDay_91 : decode cX2_liveDay 91 = .ok (.istore_n 2, 1) := by decide +kernel
theorem dX2_liveDay_92 : decode cX2_liveDay 92 = .ok (.iload_n 2, 1) := by decide +kernel
theorem dX2_liveDay_93 : decode cX2_liveDay 93 = .ok (.aload_n 0, 1) := by decide +kernel
theorem dX2_liveDay_94 : decode cX2_liveDay 94 = .ok (.getfield 29, 3) := by decide +kernel
theorem dX2_liveDay_97 : decode cX2_liveDay 97 = .ok (.if_icmp .ge 19, 3) := by decide +kernel
theorem dX2_liveDay_100 : decode cX2_liveDay 100 = .ok (.aload_n 0, 1) := by decide +kernel
theorem dX2_liveDay_101 : decode cX2_liveDay 101 = .ok (.getfield 13, 3) := by decide +kernel
theorem dX2_liveDay_104 : decode cX2_liveDay 104 = .ok (.iload_n 2, 1) := by decide +kernel
theorem dX2_liveDay_105 : decode cX2_liveDay 105 = .ok (.aaload, 1) := by decide +kernel
theorem dX2_liveDay_106 : decode cX2_liveDay 106 = .ok (.iload_n 1, 1) := by decide +kernel
theorem dX2_liveDay_107 : decode cX2_liveDay 107 = .ok (.invokevirtual 125, 3) := by decide +kernel
theorem dX2_liveDay_110 : decode cX2_liveDay 110 = .ok (.iinc 2 1, 3) := by decide +kernel
theorem dX2_liveDay_113 : decode cX2_liveDay 113 = .ok (.goto (-21), 3) := by decide +kernel
theorem dX2_liveDay_116 : decode cX2_liveDay 116 = .ok (.aload_n 0, 1) := by decide +kernel
theorem dX2_liveDay_117 : decode cX2_liveDay 117 = .ok (.dup, 1) := by decide +kernel
theorem dX2_liveDay_118 : decode cX2_liveDay 118 = .ok (.getfield 36, 3) := by decide +kernel
theorem dX2_liveDay_121 : decode cX2_liveDay 121 = .ok (.iconst 1, 1) := by decide +kernel
theorem dX2_liveDay_122 : decode cX2_liveDay 122 = .ok (.iadd, 1) := by decide +kernel
theorem dX2_liveDay_123 : decode cX2_liveDay 123 = .ok (.putfield 36, 3) := by decide +kernel
theorem dX2_liveDay_126 : decode cX2_liveDay 126 = .ok (.return_, 1) := by decide +kernel
theorem dX2_rainDown_0 : decode cX2_rainDown 0 = .ok (.iconst 0, 1) := by decide +kernel
theorem dX2_rainDown_1 : decode cX2_rainDown 1 = .ok (.istore_n 2, 1) := by decide +kernel
theorem dX2_rainDown_2 : decode cX2_rainDown 2 = .ok (.iload_n 2, 1) := by decide +kernel
theorem dX2_rainDown_3 : decode cX2_rainDown 3 = .ok (.aload_n 0, 1) := by decide +kernel
theorem dX2_rainDown_4 : decode cX2_rainDown 4 = .ok (.getfield 29, 3) := by decide +kernel
theorem dX2_rainDown_7 : decode cX2_rainDown 7 = .ok (.if_icmp .ge 37, 3) := by decide +kernel
theorem dX2_rainDown_10 : decode cX2_rainDown 10 = .ok (.aload_n 0, 1) := by decide +kernel
theorem dX2_rainDown_11 : decode cX2_rainDown 11 = .ok (.getfield 13, 3) := by decide +kernel
theorem dX2_rainDown_14 : decode cX2_rainDown 14 = .ok (.iload_n 2, 1) := by decide +kernel
theorem dX2_rainDown_15 : decode cX2_rainDown 15 = .ok (.aaload, 1) := by decide +kernel
theorem dX2_rainDown_16 : decode cX2_rainDown 16 = .ok (.iload_n 1, 1) := by decide +kernel
theorem dX2_rainDown_17 : decode cX2_rainDown 17 = .ok (.invokevirtual 128, 3) := by decide +kernel
theorem dX2_rainDown_20 : decode cX2_rainDown 20 = .ok (.istore_n 3, 1) := by decide +kernel
theorem dX2_rainDown_21 : decode cX2_rainDown 21 = .ok (.aload_n 0, 1) := by decide +kernel
theorem dX2_rainDown_22 : decode cX2_rainDown 22 = .ok (.dup, 1) := by decide +kernel
theorem dX2_rainDown_23 : decode cX2_rainDown 23 = .ok (.getfield 39, 3) := by decide +kernel
theorem dX2_rainDown_26 : decode cX2_rainDown 26 = .ok (.iload_n 3, 1) := by decide +kernel
theorem dX2_rainDown_27 : decode cX2_rainDown 27 = .ok (.iadd, 1) := by decide +kernel
theorem dX2_rainDown_28 : decode cX2_rainDown 28 = .ok (.putfield 39, 3) := by decide +kernel
theorem dX2_rainDown_31 : decode cX2_rainDown 31 = .ok (.aload_n 0, 1) := by decide +kernel
theorem dX2_rainDown_32 : decode cX2_rainDown 32 = .ok (.iload_n 2, 1) := by decide +kernel
theorem dX2_rainDown_33 : decode cX2_rainDown 33 = .ok (.iload_n 3, 1) := by decide +kernel
theorem dX2_rainDown_34 : decode cX2_rainDown 34 = .ok (.invokevirtual 131, 3) := by decide +kernel
theorem dX2_rainDown_37 : decode cX2_rainDown 37 = .ok (.pop, 1) := by decide +kernel
theorem dX2_rainDown_38 : decode cX2_rainDown 38 = .ok (.iinc 2 1, 3) := by decide +kernel
theorem dX2_rainDown_41 : decode cX2_rainDown 41 = .ok (.goto (-39), 3) := by decide +kernel
theorem dX2_rainDown_44 : decode cX2_rainDown 44 = .ok (.return_, 1) := by decide +kernel
theorem dX2_openPipesFlow_0 : decode cX2_openPipesFlow 0 = .ok (.iconst 0, 1) := by decide +kernel
theorem dX2_openPipesFlow_1 : decode cX2_openPipesFlow 1 = .ok (.istore_n 1, 1) := by decide +kernel
theorem dX2_openPipesFlow_2 : decode cX2_openPipesFlow 2 = .ok (.iload_n 1, 1) := by decide +kernel
theorem dX2_openPipesFlow_3 : decode cX2_openPipesFlow 3 = .ok (.aload_n 0, 1) := by decide +kernel
theorem dX2_openPipesFlow_4 : decode cX2_openPipesFlow 4 = .ok (.getfield 33, 3) := by decide +kernel
theorem dX2_openPipesFlow_7 : decode cX2_openPipesFlow 7 = .ok (.if_icmp .ge 45, 3) := by decide +kernel
theorem dX2_openPipesFlow_10 : decode cX2_openPipesFlow 10 = .ok (.aload_n 0, 1) := by decide +kernel
theorem dX2_openPipesFlow_11 : decode cX2_openPipesFlow 11 = .ok (.getfield 19, 3) := by decide +kernel
theorem dX2_openPipesFlow_14 : decode cX2_openPipesFlow 14 = .ok (.iload_n 1, 1) := by decide +kernel
theorem dX2_openPipesFlow_15 : decode cX2_openPipesFlow 15 = .ok (.aaload, 1) := by decide +kernel
theorem dX2_openPipesFlow_16 : decode cX2_openPipesFlow 16 = .ok (.astore_n 2, 1) := by decide +kernel
theorem dX2_openPipesFlow_17 : decode cX2_openPipesFlow 17 = .ok (.aload_n 2, 1) := by decide +kernel
theorem dX2_openPipesFlow_18 : decode cX2_openPipesFlow 18 = .ok (.getfield 79, 3) := by decide +kernel
theorem dX2_openPipesFlow_21 : decode cX2_openPipesFlow 21 = .ok (.ifCond .eq 25, 3) := by decide +kernel
theorem dX2_openPipesFlow_24 : decode cX2_openPipesFlow 24 = .ok (.aload_n 2, 1) := by decide +kernel
theorem dX2_openPipesFlow_25 : decode cX2_openPipesFlow 25 = .ok (.aload_n 0, 1) := by decide +kernel
theorem dX2_openPipesFlow_26 : decode cX2_openPipesFlow 26 = .ok (.getfield 13, 3) := by decide +kernel
theorem dX2_openPipesFlow_29 : decode cX2_openPipesFlow 29 = .ok (.aload_n 2, 1) := by decide +kernel
theorem dX2_openPipesFlow_30 : decode cX2_openPipesFlow 30 = .ok (.getfield 70, 3) := by decide +kernel
theorem dX2_openPipesFlow_33 : decode cX2_openPipesFlow 33 = .ok (.aaload, 1) := by decide +kernel
theorem dX2_openPipesFlow_34 : decode cX2_openPipesFlow 34 = .ok (.aload_n 0, 1) := by decide +kernel
theorem dX2_openPipesFlow_35 : decode cX2_openPipesFlow 35 = .ok (.getfield 13, 3) := by decide +kernel
theorem dX2_openPipesFlow_38 : decode cX2_openPipesFlow 38 = .ok (.aload_n 2, 1) := by decide +kernel
theorem dX2_openPipesFlow_39 : decode cX2_openPipesFlow 39 = .ok (.getfield 73, 3) := by decide +kernel
theorem dX2_openPipesFlow_42 : decode cX2_openPipesFlow 42 = .ok (.aaload, 1) := by decide +kernel
theorem dX2_openPipesFlow_43 : decode cX2_openPipesFlow 43 = .ok (.invokevirtual 135, 3) := by decide +kernel
theorem dX2_openPipesFlow_46 : decode cX2_openPipesFlow 46 = .ok (.iinc 1 1, 3) := by decide +kernel
theorem dX2_openPipesFlow_49 : decode cX2_openPipesFlow 49 = .ok (.goto (-47), 3) := by decide +kernel
theorem dX2_openPipesFlow_52 : decode cX2_openPipesFlow 52 = .ok (.return_, 1) := by decide +kernel
theorem dX2_debt_0 : decode cX2_debt 0 = .ok (.iconst 0, 1) := by decide +kernel
theorem dX2_debt_1 : decode cX2_debt 1 = .ok (.istore_n 3, 1) := by decide +kernel
theorem dX2_debt_2 : decode cX2_debt 2 = .ok (.iconst 0, 1) := by decide +kernel
theorem dX2_debt_3 : decode cX2_debt 3 = .ok (.istore 4, 2) := by decide +kernel
theorem dX2_debt_5 : decode cX2_debt 5 = .ok (.iload 4, 2) := by decide +kernel
theorem dX2_debt_7 : decode cX2_debt 7 = .ok (.aload_n 0, 1) := by decide +kernel
theorem dX2_debt_8 : decode cX2_debt 8 = .ok (.getfield 33, 3) := by decide +kernel
theorem dX2_debt_11 : decode cX2_debt 11 = .ok (.if_icmp .ge 24, 3) := by decide +kernel
theorem dX2_debt_14 : decode cX2_debt 14 = .ok (.iload_n 3, 1) := by decide +kernel
theorem dX2_debt_15 : decode cX2_debt 15 = .ok (.aload_n 0, 1) := by decide +kernel
theorem dX2_debt_16 : decode cX2_debt 16 = .ok (.getfield 19, 3) := by decide +kernel
theorem dX2_debt_19 : decode cX2_debt 19 = .ok (.iload 4, 2) := by decide +kernel
theorem dX2_debt_21 : decode cX2_debt 21 = .ok (.aaload, 1) := by decide +kernel
theorem dX2_debt_22 : decode cX2_debt 22 = .ok (.iload_n 1, 1) := by decide +kernel
theorem dX2_debt_23 : decode cX2_debt 23 = .ok (.iload_n 2, 1) := by decide +kernel
theorem dX2_debt_24 : decode cX2_debt 24 = .ok (.invokevirtual 139, 3) := by decide +kernel
theorem dX2_debt_27 : decode cX2_debt 27 = .ok (.iadd, 1) := by decide +kernel
theorem dX2_debt_28 : decode cX2_debt 28 = .ok (.istore_n 3, 1) := by decide +kernel
theorem dX2_debt_29 : decode cX2_debt 29 = .ok (.iinc 4 1, 3) := by decide +kernel
theorem dX2_debt_32 : decode cX2_debt 32 = .ok (.goto (-27), 3) := by decide +kernel
theorem dX2_debt_35 : decode cX2_debt 35 = .ok (.iload_n 3, 1) := by decide +kernel
theorem dX2_debt_36 : decode cX2_debt 36 = .ok (.ireturn, 1) := by decide +kernel
theorem dX2_total_0 : decode cX2_total 0 = .ok (.iload_n 1, 1) := by decide +kernel
theorem dX2_total_1 : decode cX2_total 1 = .ok (.tableswitch 105 0 9 #[55, 60, 65, 70, 75, 80, 85, 90, 95, 100], 55) := by decide +kernel
theorem dX2_total_56 : decode cX2_total 56 = .ok (.aload_n 0, 1) := by decide +kernel
theorem dX2_total_57 : decode cX2_total 57 = .ok (.getfield 36, 3) := by decide +kernel
theorem dX2_total_60 : decode cX2_total 60 = .ok (.ireturn, 1) := by decide +kernel
theorem dX2_total_61 : decode cX2_total 61 = .ok (.aload_n 0, 1) := by decide +kernel
theorem dX2_total_62 : decode cX2_total 62 = .ok (.getfield 29, 3) := by decide +kernel
theorem dX2_total_65 : decode cX2_total 65 = .ok (.ireturn, 1) := by decide +kernel
theorem dX2_total_66 : decode cX2_total 66 = .ok (.aload_n 0, 1) := by decide +kernel
theorem dX2_total_67 : decode cX2_total 67 = .ok (.getfield 33, 3) := by decide +kernel
theorem dX2_total_70 : decode cX2_total 70 = .ok (.ireturn, 1) := by decide +kernel
theorem dX2_total_71 : decode cX2_total 71 = .ok (.aload_n 0, 1) := by decide +kernel
theorem dX2_total_72 : decode cX2_total 72 = .ok (.invokevirtual 142, 3) := by decide +kernel
theorem dX2_total_75 : decode cX2_total 75 = .ok (.ireturn, 1) := by decide +kernel
theorem dX2_total_76 : decode cX2_total 76 = .ok (.aload_n 0, 1) := by decide +kernel
theorem dX2_total_77 : decode cX2_total 77 = .ok (.invokevirtual 94, 3) := by decide +kernel
theorem dX2_total_80 : decode cX2_total 80 = .ok (.ireturn, 1) := by decide +kernel
theorem dX2_total_81 : decode cX2_total 81 = .ok (.aload_n 0, 1) := by decide +kernel
theorem dX2_total_82 : decode cX2_total 82 = .ok (.getfield 39, 3) := by decide +kernel
theorem dX2_total_85 : decode cX2_total 85 = .ok (.ireturn, 1) := by decide +kernel
theorem dX2_total_86 : decode cX2_total 86 = .ok (.aload_n 0, 1) := by decide +kernel
theorem dX2_total_87 : decode cX2_total 87 = .ok (.getfield 42, 3) := by decide +kernel
theorem dX2_total_90 : decode cX2_total 90 = .ok (.ireturn, 1) := by decide +kernel
theorem dX2_total_91 : decode cX2_total 91 = .ok (.aload_n 0, 1) := by decide +kernel
theorem dX2_total_92 : decode cX2_total 92 = .ok (.getfield 45, 3) := by decide +kernel
theorem dX2_total_95 : decode cX2_total 95 = .ok (.ireturn, 1) := by decide +kernel
theorem dX2_total_96 : decode cX2_total 96 = .ok (.aload_n 0, 1) := by decide +kernel
theorem dX2_total_97 : decode cX2_total 97 = .ok (.invokevirtual 145, 3) := by decide +kernel
theorem dX2_total_100 : decode cX2_total 100 = .ok (.ireturn, 1) := by decide +kernel
theorem dX2_total_101 : decode cX2_total 101 = .ok (.aload_n 0, 1) := by decide +kernel
theorem dX2_total_102 : decode cX2_total 102 = .ok (.getfield 48, 3) := by decide +kernel
theorem dX2_total_105 : decode cX2_total 105 = .ok (.ireturn, 1) := by decide +kernel
theorem dX2_total_106 : decode cX2_total 106 = .ok (.aload_n 0, 1) := by decide +kernel
theorem dX2_total_107 : decode cX2_total 107 = .ok (.invokevirtual 148, 3) := by decide +kernel
theorem dX2_total_110 : decode cX2_total 110 = .ok (.ireturn, 1) := by decide +kernel
theorem dX2_allWater_0 : decode cX2_allWater 0 = .ok (.iconst 0, 1) := by decide +kernel
theorem dX2_allWater_1 : decode cX2_allWater 1 = .ok (.istore_n 1, 1) := by decide +kernel
theorem dX2_allWater_2 : decode cX2_allWater 2 = .ok (.iconst 0, 1) := by decide +kernel
theorem dX2_allWater_3 : decode cX2_allWater 3 = .ok (.istore_n 2, 1) := by decide +kernel
theorem dX2_allWater_4 : decode cX2_allWater 4 = .ok (.iload_n 2, 1) := by decide +kernel
theorem dX2_allWater_5 : decode cX2_allWater 5 = .ok (.aload_n 0, 1) := by decide +kernel
theorem dX2_allWater_6 : decode cX2_allWater 6 = .ok (.getfield 29, 3) := by decide +kernel
theorem dX2_allWater_9 : decode cX2_allWater 9 = .ok (.if_icmp .ge 21, 3) := by decide +kernel
theorem dX2_allWater_12 : decode cX2_allWater 12 = .ok (.iload_n 1, 1) := by decide +kernel
theorem dX2_allWater_13 : decode cX2_allWater 13 = .ok (.aload_n 0, 1) := by decide +kernel
theorem dX2_allWater_14 : decode cX2_allWater 14 = .ok (.getfield 13, 3) := by decide +kernel
theorem dX2_allWater_17 : decode cX2_allWater 17 = .ok (.iload_n 2, 1) := by decide +kernel
theorem dX2_allWater_18 : decode cX2_allWater 18 = .ok (.aaload, 1) := by decide +kernel
theorem dX2_allWater_19 : decode cX2_allWater 19 = .ok (.getfield 151, 3) := by decide +kernel
theorem dX2_allWater_22 : decode cX2_allWater 22 = .ok (.iadd, 1) := by decide +kernel
theorem dX2_allWater_23 : decode cX2_allWater 23 = .ok (.istore_n 1, 1) := by decide +kernel
theorem dX2_allWater_24 : decode cX2_allWater 24 = .ok (.iinc 2 1, 3) := by decide +kernel
theorem dX2_allWater_27 : decode cX2_allWater 27 = .ok (.goto (-23), 3) := by decide +kernel
theorem dX2_allWater_30 : decode cX2_allWater 30 = .ok (.iload_n 1, 1) := by decide +kernel
theorem dX2_allWater_31 : decode cX2_allWater 31 = .ok (.ireturn, 1) := by decide +kernel
theorem dX2_allHolds_0 : decode cX2_allHolds 0 = .ok (.iconst 0, 1) := by decide +kernel
theorem dX2_allHolds_1 : decode cX2_allHolds 1 = .ok (.istore_n 1, 1) := by decide +kernel
theorem dX2_allHolds_2 : decode cX2_allHolds 2 = .ok (.iconst 0, 1) := by decide +kernel
theorem dX2_allHolds_3 : decode cX2_allHolds 3 = .ok (.istore_n 2, 1) := by decide +kernel
theorem dX2_allHolds_4 : decode cX2_allHolds 4 = .ok (.iload_n 2, 1) := by decide +kernel
theorem dX2_allHolds_5 : decode cX2_allHolds 5 = .ok (.aload_n 0, 1) := by decide +kernel
theorem dX2_allHolds_6 : decode cX2_allHolds 6 = .ok (.getfield 29, 3) := by decide +kernel
theorem dX2_allHolds_9 : decode cX2_allHolds 9 = .ok (.if_icmp .ge 21, 3) := by decide +kernel
theorem dX2_allHolds_12 : decode cX2_allHolds 12 = .ok (.iload_n 1, 1) := by decide +kernel
theorem dX2_allHolds_13 : decode cX2_allHolds 13 = .ok (.aload_n 0, 1) := by decide +kernel
theorem dX2_allHolds_14 : decode cX2_allHolds 14 = .ok (.getfield 13, 3) := by decide +kernel
theorem dX2_allHolds_17 : decode cX2_allHolds 17 = .ok (.iload_n 2, 1) := by decide +kernel
theorem dX2_allHolds_18 : decode cX2_allHolds 18 = .ok (.aaload, 1) := by decide +kernel
theorem dX2_allHolds_19 : decode cX2_allHolds 19 = .ok (.getfield 61, 3) := by decide +kernel
theorem dX2_allHolds_22 : decode cX2_allHolds 22 = .ok (.iadd, 1) := by decide +kernel
theorem dX2_allHolds_23 : decode cX2_allHolds 23 = .ok (.istore_n 1, 1) := by decide +kernel
theorem dX2_allHolds_24 : decode cX2_allHolds 24 = .ok (.iinc 2 1, 3) := by decide +kernel
theorem dX2_allHolds_27 : decode cX2_allHolds 27 = .ok (.goto (-23), 3) := by decide +kernel
theorem dX2_allHolds_30 : decode cX2_allHolds 30 = .ok (.iload_n 1, 1) := by decide +kernel
theorem dX2_allHolds_31 : decode cX2_allHolds 31 = .ok (.ireturn, 1) := by decide +kernel
theorem dX2_allThirst_0 : decode cX2_allThirst 0 = .ok (.iconst 0, 1) := by decide +kernel
theorem dX2_allThirst_1 : decode cX2_allThirst 1 = .ok (.istore_n 1, 1) := by decide +kernel
theorem dX2_allThirst_2 : decode cX2_allThirst 2 = .ok (.iconst 0, 1) := by decide +kernel
theorem dX2_allThirst_3 : decode cX2_allThirst 3 = .ok (.istore_n 2, 1) := by decide +kernel
theorem dX2_allThirst_4 : decode cX2_allThirst 4 = .ok (.iload_n 2, 1) := by decide +kernel
theorem dX2_allThirst_5 : decode cX2_allThirst 5 = .ok (.aload_n 0, 1) := by decide +kernel
theorem dX2_allThirst_6 : decode cX2_allThirst 6 = .ok (.getfield 29, 3) := by decide +kernel
theorem dX2_allThirst_9 : decode cX2_allThirst 9 = .ok (.if_icmp .ge 21, 3) := by decide +kernel
theorem dX2_allThirst_12 : decode cX2_allThirst 12 = .ok (.iload_n 1, 1) := by decide +kernel
theorem dX2_allThirst_13 : decode cX2_allThirst 13 = .ok (.aload_n 0, 1) := by decide +kernel
theorem dX2_allThirst_14 : decode cX2_allThirst 14 = .ok (.getfield 13, 3) := by decide +kernel
theorem dX2_allThirst_17 : decode cX2_allThirst 17 = .ok (.iload_n 2, 1) := by decide +kernel
theorem dX2_allThirst_18 : decode cX2_allThirst 18 = .ok (.aaload, 1) := by decide +kernel
theorem dX2_allThirst_19 : decode cX2_allThirst 19 = .ok (.getfield 154, 3) := by decide +kernel
theorem dX2_allThirst_22 : decode cX2_allThirst 22 = .ok (.iadd, 1) := by decide +kernel
theorem dX2_allThirst_23 : decode cX2_allThirst 23 = .ok (.istore_n 1, 1) := by decide +kernel
theorem dX2_allThirst_24 : decode cX2_allThirst 24 = .ok (.iinc 2 1, 3) := by decide +kernel
theorem dX2_allThirst_27 : decode cX2_allThirst 27 = .ok (.goto (-23), 3) := by decide +kernel
theorem dX2_allThirst_30 : decode cX2_allThirst 30 = .ok (.iload_n 1, 1) := by decide +kernel
theorem dX2_allThirst_31 : decode cX2_allThirst 31 = .ok (.ireturn, 1) := by decide +kernel
theorem dX2_allWatered_0 : decode cX2_allWatered 0 = .ok (.iconst 0, 1) := by decide +kernel
theorem dX2_allWatered_1 : decode cX2_allWatered 1 = .ok (.istore_n 1, 1) := by decide +kernel
theorem dX2_allWatered_2 : decode cX2_allWatered 2 = .ok (.iconst 0, 1) := by decide +kernel
theorem dX2_allWatered_3 : decode cX2_allWatered 3 = .ok (.istore_n 2, 1) := by decide +kernel
theorem dX2_allWatered_4 : decode cX2_allWatered 4 = .ok (.iload_n 2, 1) := by decide +kernel
theorem dX2_allWatered_5 : decode cX2_allWatered 5 = .ok (.aload_n 0, 1) := by decide +kernel
theorem dX2_allWatered_6 : decode cX2_allWatered 6 = .ok (.getfield 29, 3) := by decide +kernel
theorem dX2_allWatered_9 : decode cX2_allWatered 9 = .ok (.if_icmp .ge 21, 3) := by decide +kernel
theorem dX2_allWatered_12 : decode cX2_allWatered 12 = .ok (.iload_n 1, 1) := by decide +kernel
theorem dX2_allWatered_13 : decode cX2_allWatered 13 = .ok (.aload_n 0, 1) := by decide +kernel
theorem dX2_allWatered_14 : decode cX2_allWatered 14 = .ok (.getfield 13, 3) := by decide +kernel
theorem dX2_allWatered_17 : decode cX2_allWatered 17 = .ok (.iload_n 2, 1) := by decide +kernel
theorem dX2_allWatered_18 : decode cX2_allWatered 18 = .ok (.aaload, 1) := by decide +kernel
theorem dX2_allWatered_19 : decode cX2_allWatered 19 = .ok (.getfield 157, 3) := by decide +kernel
theorem dX2_allWatered_22 : decode cX2_allWatered 22 = .ok (.iadd, 1) := by decide +kernel
theorem dX2_allWatered_23 : decode cX2_allWatered 23 = .ok (.istore_n 1, 1) := by decide +kernel
theorem dX2_allWatered_24 : decode cX2_allWatered 24 = .ok (.iinc 2 1, 3) := by decide +kernel
theorem dX2_allWatered_27 : decode cX2_allWatered 27 = .ok (.goto (-23), 3) := by decide +kernel
theorem dX2_allWatered_30 : decode cX2_allWatered 30 = .ok (.iload_n 1, 1) := by decide +kernel
theorem dX2_allWatered_31 : decode cX2_allWatered 31 = .ok (.ireturn, 1) := by decide +kernel
theorem dX2_openValves_0 : decode cX2_openValves 0 = .ok (.iconst 0, 1) := by decide +kernel
theorem dX2_openValves_1 : decode cX2_openValves 1 = .ok (.istore_n 1, 1) := by decide +kernel
theorem dX2_openValves_2 : decode cX2_openValves 2 = .ok (.iconst 0, 1) := by decide +kernel
theorem dX2_openValves_3 : decode cX2_openValves 3 = .ok (.istore_n 2, 1) := by decide +kernel
theorem dX2_openValves_4 : decode cX2_openValves 4 = .ok (.iload_n 2, 1) := by decide +kernel
theorem dX2_openValves_5 : decode cX2_openValves 5 = .ok (.aload_n 0, 1) := by decide +kernel
theorem dX2_openValves_6 : decode cX2_openValves 6 = .ok (.getfield 33, 3) := by decide +kernel
theorem dX2_openValves_9 : decode cX2_openValves 9 = .ok (.if_icmp .ge 24, 3) := by decide +kernel
theorem dX2_openValves_12 : decode cX2_openValves 12 = .ok (.aload_n 0, 1) := by decide +kernel
theorem dX2_openValves_13 : decode cX2_openValves 13 = .ok (.getfield 19, 3) := by decide +kernel
theorem dX2_openValves_16 : decode cX2_openValves 16 = .ok (.iload_n 2, 1) := by decide +kernel
theorem dX2_openValves_17 : decode cX2_openValves 17 = .ok (.aaload, 1) := by decide +kernel
theorem dX2_openValves_18 : decode cX2_openValves 18 = .ok (.getfield 79, 3) := by decide +kernel
theorem dX2_openValves_21 : decode cX2_openValves 21 = .ok (.ifCond .eq 6, 3) := by decide +kernel
theorem dX2_openValves_24 : decode cX2_openValves 24 = .ok (.iinc 1 1, 3) := by decide +kernel
theorem dX2_openValves_27 : decode cX2_openValves 27 = .ok (.iinc 2 1, 3) := by decide +kernel
theorem dX2_openValves_30 : decode cX2_openValves 30 = .ok (.goto (-26), 3) := by decide +kernel
theorem dX2_openValves_33 : decode cX2_openValves 33 = .ok (.iload_n 1, 1) := by decide +kernel
theorem dX2_openValves_34 : decode cX2_openValves 34 = .ok (.ireturn, 1) := by decide +kernel
theorem dX3_init_0 : decode cX3_init 0 = .ok (.aload_n 0, 1) := by decide +kernel
theorem dX3_init_1 : decode cX3_init 1 = .ok (.invokespecial 1, 3) := by decide +kernel
theorem dX3_init_4 : decode cX3_init 4 = .ok (.aload_n 0, 1) := by decide +kernel
theorem dX3_init_5 : decode cX3_init 5 = .ok (.bipush 28, 2) := by decide +kernel
theorem dX3_init_7 : decode cX3_init 7 = .ok (.newarray .int, 2) := by decide +kernel
theorem dX3_init_9 : decode cX3_init 9 = .ok (.putfield 9, 3) := by decide +kernel
theorem dX3_init_12 : decode cX3_init 12 = .ok (.aload_n 0, 1) := by decide +kernel
theorem dX3_init_13 : decode cX3_init 13 = .ok (.bipush 28, 2) := by decide +kernel
theorem dX3_init_15 : decode cX3_init 15 = .ok (.newarray .int, 2) := by decide +kernel
theorem dX3_init_17 : decode cX3_init 17 = .ok (.putfield 13, 3) := by decide +kernel
theorem dX3_init_20 : decode cX3_init 20 = .ok (.return_, 1) := by decide +kernel
theorem dX3_change_0 : decode cX3_change 0 = .ok (.aload_n 0, 1) := by decide +kernel
theorem dX3_change_1 : decode cX3_change 1 = .ok (.getfield 9, 3) := by decide +kernel
theorem dX3_change_4 : decode cX3_change 4 = .ok (.iload_n 1, 1) := by decide +kernel
theorem dX3_change_5 : decode cX3_change 5 = .ok (.iload_n 2, 1) := by decide +kernel
theorem dX3_change_6 : decode cX3_change 6 = .ok (.iastore, 1) := by decide +kernel
theorem dX3_change_7 : decode cX3_change 7 = .ok (.aload_n 0, 1) := by decide +kernel
theorem dX3_change_8 : decode cX3_change 8 = .ok (.getfield 13, 3) := by decide +kernel
theorem dX3_change_11 : decode cX3_change 11 = .ok (.iload_n 1, 1) := by decide +kernel
theorem dX3_change_12 : decode cX3_change 12 = .ok (.iload_n 3, 1) := by decide +kernel
theorem dX3_change_13 : decode cX3_change 13 = .ok (.iastore, 1) := by decide +kernel
theorem dX3_change_14 : decode cX3_change 14 = .ok (.return_, 1) := by decide +kernel
theorem dX3_code_0 : decode cX3_code 0 = .ok (.bipush 10, 2) := by decide +kernel
theorem dX3_code_2 : decode cX3_code 2 = .ok (.aload_n 0, 1) := by decide +kernel
theorem dX3_code_3 : decode cX3_code 3 = .ok (.getfield 9, 3) := by decide +kernel
theorem dX3_code_6 : decode cX3_code 6 = .ok (.iload_n 1, 1) := by decide +kernel
theorem dX3_code_7 : decode cX3_code 7 = .ok (.iaload, 1) := by decide +kernel
theorem dX3_code_8 : decode cX3_code 8 = .ok (.imul, 1) := by decide +kernel
theorem dX3_code_9 : decode cX3_code 9 = .ok (.aload_n 0, 1) := by decide +kernel
theorem dX3_code_10 : decode cX3_code 10 = .ok (.getfield 13, 3) := by decide +kernel
theorem dX3_code_13 : decode cX3_code 13 = .ok (.iload_n 1, 1) := by decide +kernel
theorem dX3_code_14 : decode cX3_code 14 = .ok (.iaload, 1) := by decide +kernel
theorem dX3_code_15 : decode cX3_code 15 = .ok (.iadd, 1) := by decide +kernel
theorem dX3_code_16 : decode cX3_code 16 = .ok (.ireturn, 1) := by decide +kernel
theorem dX3_rainOn_0 : decode cX3_rainOn 0 = .ok (.aload_n 0, 1) := by decide +kernel
theorem dX3_rainOn_1 : decode cX3_rainOn 1 = .ok (.getfield 9, 3) := by decide +kernel
theorem dX3_rainOn_4 : decode cX3_rainOn 4 = .ok (.iload_n 1, 1) := by decide +kernel
theorem dX3_rainOn_5 : decode cX3_rainOn 5 = .ok (.bipush 28, 2) := by decide +kernel
theorem dX3_rainOn_7 : decode cX3_rainOn 7 = .ok (.invokestatic 16, 3) := by decide +kernel
theorem dX3_rainOn_10 : decode cX3_rainOn 10 = .ok (.iaload, 1) := by decide +kernel
theorem dX3_rainOn_11 : decode cX3_rainOn 11 = .ok (.ireturn, 1) := by decide +kernel
theorem dX3_leavesOn_0 : decode cX3_leavesOn 0 = .ok (.aload_n 0, 1) := by decide +kernel
theorem dX3_leavesOn_1 : decode cX3_leavesOn 1 = .ok (.getfield 13, 3) := by decide +kernel
theorem dX3_leavesOn_4 : decode cX3_leavesOn 4 = .ok (.iload_n 1, 1) := by decide +kernel
theorem dX3_leavesOn_5 : decode cX3_leavesOn 5 = .ok (.bipush 28, 2) := by decide +kernel
theorem dX3_leavesOn_7 : decode cX3_leavesOn 7 = .ok (.invokestatic 16, 3) := by decide +kernel
theorem dX3_leavesOn_10 : decode cX3_leavesOn 10 = .ok (.iaload, 1) := by decide +kernel
theorem dX3_leavesOn_11 : decode cX3_leavesOn 11 = .ok (.ireturn, 1) := by decide +kernel
theorem dX3_longestDryRow_0 : decode cX3_longestDryRow 0 = .ok (.iconst 0, 1) := by decide +kernel
theorem dX3_longestDryRow_1 : decode cX3_longestDryRow 1 = .ok (.istore_n 1, 1) := by decide +kernel
theorem dX3_longestDryRow_2 : decode cX3_longestDryRow 2 = .ok (.iconst 0, 1) := by decide +kernel
theorem dX3_longestDryRow_3 : decode cX3_longestDryRow 3 = .ok (.istore_n 2, 1) := by decide +kernel
theorem dX3_longestDryRow_4 : decode cX3_longestDryRow 4 = .ok (.iconst 0, 1) := by decide +kernel
theorem dX3_longestDryRow_5 : decode cX3_longestDryRow 5 = .ok (.istore_n 3, 1) := by decide +kernel
theorem dX3_longestDryRow_6 : decode cX3_longestDryRow 6 = .ok (.iload_n 3, 1) := by decide +kernel
theorem dX3_longestDryRow_7 : decode cX3_longestDryRow 7 = .ok (.bipush 56, 2) := by decide +kernel
theorem dX3_longestDryRow_9 : decode cX3_longestDryRow 9 = .ok (.if_icmp .ge 35, 3) := by decide +kernel
theorem dX3_longestDryRow_12 : decode cX3_longestDryRow 12 = .ok (.aload_n 0, 1) := by decide +kernel
theorem dX3_longestDryRow_13 : decode cX3_longestDryRow 13 = .ok (.getfield 9, 3) := by decide +kernel
theorem dX3_longestDryRow_16 : decode cX3_longestDryRow 16 = .ok (.iload_n 3, 1) := by decide +kernel
theorem dX3_longestDryRow_17 : decode cX3_longestDryRow 17 = .ok (.bipush 28, 2) := by decide +kernel
theorem dX3_longestDryRow_19 : decode cX3_longestDryRow 19 = .ok (.irem, 1) := by decide +kernel
theorem dX3_longestDryRow_20 : decode cX3_longestDryRow 20 = .ok (.iaload, 1) := by decide +kernel
theorem dX3_longestDryRow_21 : decode cX3_longestDryRow 21 = .ok (.ifCond .le 7, 3) := by decide +kernel
theorem dX3_longestDryRow_24 : decode cX3_longestDryRow 24 = .ok (.iconst 0, 1) := by decide +kernel
theorem dX3_longestDryRow_25 : decode cX3_longestDryRow 25 = .ok (.goto 6, 3) := by decide +kernel
theorem dX3_longestDryRow_28 : decode cX3_longestDryRow 28 = .ok (.iload_n 2, 1) := by decide +kernel
theorem dX3_longestDryRow_29 : decode cX3_longestDryRow 29 = .ok (.iconst 1, 1) := by decide +kernel
theorem dX3_longestDryRow_30 : decode cX3_longestDryRow 30 = .ok (.iadd, 1) := by decide +kernel
theorem dX3_longestDryRow_31 : decode cX3_longestDryRow 31 = .ok (.istore_n 2, 1) := by decide +kernel
theorem dX3_longestDryRow_32 : decode cX3_longestDryRow 32 = .ok (.iload_n 1, 1) := by decide +kernel
theorem dX3_longestDryRow_33 : decode cX3_longestDryRow 33 = .ok (.iload_n 2, 1) := by decide +kernel
theorem dX3_longestDryRow_34 : decode cX3_longestDryRow 34 = .ok (.invokestatic 22, 3) := by decide +kernel
theorem dX3_longestDryRow_37 : decode cX3_longestDryRow 37 = .ok (.istore_n 1, 1) := by decide +kernel
theorem dX3_longestDryRow_38 : decode cX3_longestDryRow 38 = .ok (.iinc 3 1, 3) := by decide +kernel
theorem dX3_longestDryRow_41 : decode cX3_longestDryRow 41 = .ok (.goto (-35), 3) := by decide +kernel
theorem dX3_longestDryRow_44 : decode cX3_longestDryRow 44 = .ok (.iload_n 1, 1) := by decide +kernel
theorem dX3_longestDryRow_45 : decode cX3_longestDryRow 45 = .ok (.bipush 28, 2) := by decide +kernel
theorem dX3_longestDryRow_47 : decode cX3_longestDryRow 47 = .ok (.invokestatic 25, 3) := by decide +kernel
theorem dX3_longestDryRow_50 : decode cX3_longestDryRow 50 = .ok (.ireturn, 1) := by decide +kernel
end
section
theorem dX4_init_0 : decode cX4_init 0 = .ok (.aload_n 0, 1) := by decide +kernel
theorem dX4_init_1 : decode cX4_init 1 = .ok (.invokespecial 1, 3) := by decide +kernel
theorem dX4_init_4 : decode cX4_init 4 = .ok (.aload_n 0, 1) := by decide +kernel
theorem dX4_init_5 : decode cX4_init 5 = .ok (.new 7, 3) := by decide +kernel
theorem dX4_init_8 : decode cX4_init 8 = .ok (.dup, 1) := by decide +kernel
theorem dX4_init_9 : decode cX4_init 9 = .ok (.invokespecial 9, 3) := by decide +kernel
theorem dX4_init_12 : decode cX4_init 12 = .ok (.putfield 10, 3) := by decide +kernel
theorem dX4_init_15 : decode cX4_init 15 = .ok (.aload_n 0, 1) := by decide +kernel
theorem dX4_init_16 : decode cX4_init 16 = .ok (.new 16, 3) := by decide +kernel
theorem dX4_init_19 : decode cX4_init 19 = .ok (.dup, 1) := by decide +kernel
theorem dX4_init_20 : decode cX4_init 20 = .ok (.aload_n 0, 1) := by decide +kernel
theorem dX4_init_21 : decode cX4_init 21 = .ok (.getfield 10, 3) := by decide +kernel
theorem dX4_init_24 : decode cX4_init 24 = .ok (.invokespecial 18, 3) := by decide +kernel
theorem dX4_init_27 : decode cX4_init 27 = .ok (.putfield 21, 3) := by decide +kernel
theorem dX4_init_30 : decode cX4_init 30 = .ok (.aload_n 0, 1) := by decide +kernel
theorem dX4_init_31 : decode cX4_init 31 = .ok (.new 16, 3) := by decide +kernel
theorem dX4_init_34 : decode cX4_init 34 = .ok (.dup, 1) := by decide +kernel
theorem dX4_init_35 : decode cX4_init 35 = .ok (.aload_n 0, 1) := by decide +kernel
theorem dX4_init_36 : decode cX4_init 36 = .ok (.getfield 10, 3) := by decide +kernel
theorem dX4_init_39 : decode cX4_init 39 = .ok (.invokespecial 18, 3) := by decide +kernel
theorem dX4_init_42 : decode cX4_init 42 = .ok (.putfield 25, 3) := by decide +kernel
theorem dX4_init_45 : decode cX4_init 45 = .ok (.return_, 1) := by decide +kernel
theorem dX4_setWeather_0 : decode cX4_setWeather 0 = .ok (.iload_n 1, 1) := by decide +kernel
theorem dX4_setWeather_1 : decode cX4_setWeather 1 = .ok (.iconst 0, 1) := by decide +kernel
theorem dX4_setWeather_2 : decode cX4_setWeather 2 = .ok (.bipush 27, 2) := by decide +kernel
theorem dX4_setWeather_4 : decode cX4_setWeather 4 = .ok (.invokestatic 28, 3) := by decide +kernel
theorem dX4_setWeather_7 : decode cX4_setWeather 7 = .ok (.invokestatic 32, 3) := by decide +kernel
theorem dX4_setWeather_10 : decode cX4_setWeather 10 = .ok (.iload_n 2, 1) := by decide +kernel
theorem dX4_setWeather_11 : decode cX4_setWeather 11 = .ok (.iconst 0, 1) := by decide +kernel
theorem dX4_setWeather_12 : decode cX4_setWeather 12 = .ok (.bipush 20, 2) := by decide +kernel
theorem dX4_setWeather_14 : decode cX4_setWeather 14 = .ok (.invokestatic 28, 3) := by decide +kernel
theorem dX4_setWeather_17 : decode cX4_setWeather 17 = .ok (.ifCond .eq 16, 3) := by decide +kernel
theorem dX4_setWeather_20 : decode cX4_setWeather 20 = .ok (.iload_n 3, 1) := by decide +kernel
theorem dX4_setWeather_21 : decode cX4_setWeather 21 = .ok (.iconst 0, 1) := by decide +kernel
theorem dX4_setWeather_22 : decode cX4_setWeather 22 = .ok (.iconst 3, 1) := by decide +kernel
theorem dX4_setWeather_23 : decode cX4_setWeather 23 = .ok (.invokestatic 28, 3) := by decide +kernel
theorem dX4_setWeather_26 : decode cX4_setWeather 26 = .ok (.ifCond .eq 7, 3) := by decide +kernel
theorem dX4_setWeather_29 : decode cX4_setWeather 29 = .ok (.iconst 1, 1) := by decide +kernel
theorem dX4_setWeather_30 : decode cX4_setWeather 30 = .ok (.goto 4, 3) := by decide +kernel
theorem dX4_setWeather_33 : decode cX4_setWeather 33 = .ok (.iconst 0, 1) := by decide +kernel
theorem dX4_setWeather_34 : decode cX4_setWeather 34 = .ok (.invokestatic 36, 3) := by decide +kernel
theorem dX4_setWeather_37 : decode cX4_setWeather 37 = .ok (.aload_n 0, 1) := by decide +kernel
theorem dX4_setWeather_38 : decode cX4_setWeather 38 = .ok (.getfield 10, 3) := by decide +kernel
theorem dX4_setWeather_41 : decode cX4_setWeather 41 = .ok (.iload_n 1, 1) := by decide +kernel
theorem dX4_setWeather_42 : decode cX4_setWeather 42 = .ok (.invokevirtual 39, 3) := by decide +kernel
theorem dX4_setWeather_45 : decode cX4_setWeather 45 = .ok (.istore 4, 2) := by decide +kernel
theorem dX4_setWeather_47 : decode cX4_setWeather 47 = .ok (.aload_n 0, 1) := by decide +kernel
theorem dX4_setWeather_48 : decode cX4_setWeather 48 = .ok (.getfield 10, 3) := by decide +kernel
theorem dX4_setWeather_51 : decode cX4_setWeather 51 = .ok (.iload_n 1, 1) := by decide +kernel
theorem dX4_setWeather_52 : decode cX4_setWeather 52 = .ok (.iload_n 2, 1) := by decide +kernel
theorem dX4_setWeather_53 : decode cX4_setWeather 53 = .ok (.iload_n 3, 1) := by decide +kernel
theorem dX4_setWeather_54 : decode cX4_setWeather 54 = .ok (.invokevirtual 43, 3) := by decide +kernel
theorem dX4_setWeather_57 : decode cX4_setWeather 57 = .ok (.iload 4, 2) := by decide +kernel
theorem dX4_setWeather_59 : decode cX4_setWeather 59 = .ok (.ireturn, 1) := by decide +kernel
theorem dX4_build_0 : decode cX4_build 0 = .ok (.iload_n 1, 1) := by decide +kernel
theorem dX4_build_1 : decode cX4_build 1 = .ok (.iconst 1, 1) := by decide +kernel
theorem dX4_build_2 : decode cX4_build 2 = .ok (.bipush 30, 2) := by decide +kernel
theorem dX4_build_4 : decode cX4_build 4 = .ok (.invokestatic 28, 3) := by decide +kernel
theorem dX4_build_7 : decode cX4_build 7 = .ok (.ifCond .eq 19, 3) := by decide +kernel
theorem dX4_build_10 : decode cX4_build 10 = .ok (.iload_n 2, 1) := by decide +kernel
theorem dX4_build_11 : decode cX4_build 11 = .ok (.bipush 10, 2) := by decide +kernel
theorem dX4_build_13 : decode cX4_build 13 = .ok (.sipush 900, 3) := by decide +kernel
theorem dX4_build_16 : decode cX4_build 16 = .ok (.invokestatic 28, 3) := by decide +kernel
theorem dX4_build_19 : decode cX4_build 19 = .ok (.ifCond .eq 7, 3) := by decide +kernel
theorem dX4_build_22 : decode cX4_build 22 = .ok (.iconst 1, 1) := by decide +kernel
theorem dX4_build_23 : decode cX4_build 23 = .ok (.goto 4, 3) := by decide +kernel
theorem dX4_build_26 : decode cX4_build 26 = .ok (.iconst 0, 1) := by decide +kernel
theorem dX4_build_27 : decode cX4_build 27 = .ok (.invokestatic 36, 3) := by decide +kernel
theorem dX4_build_30 : decode cX4_build 30 = .ok (.iload_n 3, 1) := by decide +kernel
theorem dX4_build_31 : decode cX4_build 31 = .ok (.iconst 0, 1) := by decide +kernel
theorem dX4_build_32 : decode cX4_build 32 = .ok (.bipush 9, 2) := by decide +kernel
theorem dX4_build_34 : decode cX4_build 34 = .ok (.invokestatic 28, 3) := by decide +kernel
theorem dX4_build_37 : decode cX4_build 37 = .ok (.ifCond .eq 18, 3) := by decide +kernel
theorem dX4_build_40 : decode cX4_build 40 = .ok (.iload 4, 2) := by decide +kernel
theorem dX4_build_42 : decode cX4_build 42 = .ok (.iconst 0, 1) := by decide +kernel
theorem dX4_build_43 : decode cX4_build 43 = .ok (.bipush 20, 2) := by decide +kernel
theorem dX4_build_45 : decode cX4_build 45 = .ok (.invokestatic 28, 3) := by decide +kernel
theorem dX4_build_48 : decode cX4_build 48 = .ok (.ifCond .eq 7, 3) := by decide +kernel
theorem dX4_build_51 : decode cX4_build 51 = .ok (.iconst 1, 1) := by decide +kernel
theorem dX4_build_52 : decode cX4_build 52 = .ok (.goto 4, 3) := by decide +kernel
theorem dX4_build_55 : decode cX4_build 55 = .ok (.iconst 0, 1) := by decide +kernel
theorem dX4_build_56 : decode cX4_build 56 = .ok (.invokestatic 36, 3) := by decide +kernel
theorem dX4_build_59 : decode cX4_build 59 = .ok (.aload_n 0, 1) := by decide +kernel
theorem dX4_build_60 : decode cX4_build 60 = .ok (.getfield 21, 3) := by decide +kernel
theorem dX4_build_63 : decode cX4_build 63 = .ok (.getfield 47, 3) := by decide +kernel
theorem dX4_build_66 : decode cX4_build 66 = .ok (.bipush 10, 2) := by decide +kernel
theorem dX4_build_68 : decode cX4_build 68 = .ok (.if_icmp .ge 7, 3) := by decide +kernel
theorem dX4_build_71 : decode cX4_build 71 = .ok (.iconst 1, 1) := by decide +kernel
theorem dX4_build_72 : decode cX4_build 72 = .ok (.goto 4, 3) := by decide +kernel
theorem dX4_build_75 : decode cX4_build 75 = .ok (.iconst 0, 1) := by decide +kernel
theorem dX4_build_76 : decode cX4_build 76 = .ok (.invokestatic 51, 3) := by decide +kernel
theorem dX4_build_79 : decode cX4_build 79 = .ok (.aload_n 0, 1) := by decide +kernel
theorem dX4_build_80 : decode cX4_build 80 = .ok (.getfield 21, 3) := by decide +kernel
theorem dX4_build_83 : decode cX4_build 83 = .ok (.iload_n 1, 1) := by decide +kernel
theorem dX4_build_84 : decode cX4_build 84 = .ok (.iload_n 2, 1) := by decide +kernel
theorem dX4_build_85 : decode cX4_build 85 = .ok (.iload_n 3, 1) := by decide +kernel
theorem dX4_build_86 : decode cX4_build 86 = .ok (.iload 4, 2) := by decide +kernel
theorem dX4_build_88 : decode cX4_build 88 = .ok (.invokevirtual 54, 3) := by decide +kernel
theorem dX4_build_91 : decode cX4_build 91 = .ok (.ireturn, 1) := by decide +kernel
theorem dX4_chain_0 : decode cX4_chain 0 = .ok (.aload_n 0, 1) := by decide +kernel
theorem dX4_chain_1 : decode cX4_chain 1 = .ok (.iload_n 1, 1) := by decide +kernel
theorem dX4_chain_2 : decode cX4_chain 2 = .ok (.invokevirtual 58, 3) := by decide +kernel
theorem dX4_chain_5 : decode cX4_chain 5 = .ok (.iload_n 2, 1) := by decide +kernel
theorem dX4_chain_6 : decode cX4_chain 6 = .ok (.iconst (-1), 1) := by decide +kernel
theorem dX4_chain_7 : decode cX4_chain 7 = .ok (.if_icmp .eq 14, 3) := by decide +kernel
theorem dX4_chain_10 : decode cX4_chain 10 = .ok (.aload_n 0, 1) := by decide +kernel
theorem dX4_chain_11 : decode cX4_chain 11 = .ok (.getfield 21, 3) := by decide +kernel
theorem dX4_chain_14 : decode cX4_chain 14 = .ok (.iload_n 2, 1) := by decide +kernel
theorem dX4_chain_15 : decode cX4_chain 15 = .ok (.invokevirtual 62, 3) := by decide +kernel
theorem dX4_chain_18 : decode cX4_chain 18 = .ok (.ifCond .eq 7, 3) := by decide +kernel
theorem dX4_chain_21 : decode cX4_chain 21 = .ok (.iconst 1, 1) := by decide +kernel
theorem dX4_chain_22 : decode cX4_chain 22 = .ok (.goto 4, 3) := by decide +kernel
theorem dX4_chain_25 : decode cX4_chain 25 = .ok (.iconst 0, 1) := by decide +kernel
theorem dX4_chain_26 : decode cX4_chain 26 = .ok (.invokestatic 32, 3) := by decide +kernel
theorem dX4_chain_29 : decode cX4_chain 29 = .ok (.iload_n 1, 1) := by decide +kernel
theorem dX4_chain_30 : decode cX4_chain 30 = .ok (.iload_n 2, 1) := by decide +kernel
theorem dX4_chain_31 : decode cX4_chain 31 = .ok (.if_icmp .eq 7, 3) := by decide +kernel
theorem dX4_chain_34 : decode cX4_chain 34 = .ok (.iconst 1, 1) := by decide +kernel
theorem dX4_chain_35 : decode cX4_chain 35 = .ok (.goto 4, 3) := by decide +kernel
theorem dX4_chain_38 : decode cX4_chain 38 = .ok (.iconst 0, 1) := by decide +kernel
theorem dX4_chain_39 : decode cX4_chain 39 = .ok (.invokestatic 36, 3) := by decide +kernel
theorem dX4_chain_42 : decode cX4_chain 42 = .ok (.aload_n 0, 1) := by decide +kernel
theorem dX4_chain_43 : decode cX4_chain 43 = .ok (.getfield 21, 3) := by decide +kernel
theorem dX4_chain_46 : decode cX4_chain 46 = .ok (.iload_n 2, 1) := by decide +kernel
theorem dX4_chain_47 : decode cX4_chain 47 = .ok (.iload_n 1, 1) := by decide +kernel
theorem dX4_chain_48 : decode cX4_chain 48 = .ok (.invokevirtual 66, 3) := by decide +kernel
theorem dX4_chain_51 : decode cX4_chain 51 = .ok (.ifCond .ne 7, 3) := by decide +kernel
theorem dX4_chain_54 : decode cX4_chain 54 = .ok (.iconst 1, 1) := by decide +kernel
theorem dX4_chain_55 : decode cX4_chain 55 = .ok (.goto 4, 3) := by decide +kernel
theorem dX4_chain_58 : decode cX4_chain 58 = .ok (.iconst 0, 1) := by decide +kernel
theorem dX4_chain_59 : decode cX4_chain 59 = .ok (.invokestatic 51, 3) := by decide +kernel
theorem dX4_chain_62 : decode cX4_chain 62 = .ok (.aload_n 0, 1) := by decide +kernel
theorem dX4_chain_63 : decode cX4_chain 63 = .ok (.getfield 21, 3) := by decide +kernel
theorem dX4_chain_66 : decode cX4_chain 66 = .ok (.getfield 70, 3) := by decide +kernel
theorem dX4_chain_69 : decode cX4_chain 69 = .ok (.iload_n 1, 1) := by decide +kernel
theorem dX4_chain_70 : decode cX4_chain 70 = .ok (.aaload, 1) := by decide +kernel
theorem dX4_chain_71 : decode cX4_chain 71 = .ok (.iload_n 2, 1) := by decide +kernel
theorem dX4_chain_72 : decode cX4_chain 72 = .ok (.putfield 74, 3) := by decide +kernel
theorem dX4_chain_75 : decode cX4_chain 75 = .ok (.aload_n 0, 1) := by decide +kernel
theorem dX4_chain_76 : decode cX4_chain 76 = .ok (.getfield 21, 3) := by decide +kernel
theorem dX4_chain_79 : decode cX4_chain 79 = .ok (.iload_n 2, 1) := by decide +kernel
theorem dX4_chain_80 : decode cX4_chain 80 = .ok (.invokevirtual 79, 3) := by decide +kernel
theorem dX4_chain_83 : decode cX4_chain 83 = .ok (.ireturn, 1) := by decide +kernel
theorem dX4_lay_0 : decode cX4_lay 0 = .ok (.aload_n 0, 1) := by decide +kernel
theorem dX4_lay_1 : decode cX4_lay 1 = .ok (.iload_n 1, 1) := by decide +kernel
theorem dX4_lay_2 : decode cX4_lay 2 = .ok (.invokevirtual 58, 3) := by decide +kernel
theorem dX4_lay_5 : decode cX4_lay 5 = .ok (.aload_n 0, 1) := by decide +kernel
theorem dX4_lay_6 : decode cX4_lay 6 = .ok (.iload_n 2, 1) := by decide +kernel
theorem dX4_lay_7 : decode cX4_lay 7 = .ok (.invokevirtual 58, 3) := by decide +kernel
theorem dX4_lay_10 : decode cX4_lay 10 = .ok (.iload_n 1, 1) := by decide +kernel
theorem dX4_lay_11 : decode cX4_lay 11 = .ok (.iload_n 2, 1) := by decide +kernel
theorem dX4_lay_12 : decode cX4_lay 12 = .ok (.if_icmp .eq 17, 3) := by decide +kernel
theorem dX4_lay_15 : decode cX4_lay 15 = .ok (.iload_n 3, 1) := by decide +kernel
theorem dX4_lay_16 : decode cX4_lay 16 = .ok (.iconst 1, 1) := by decide +kernel
theorem dX4_lay_17 : decode cX4_lay 17 = .ok (.bipush 50, 2) := by decide +kernel
theorem dX4_lay_19 : decode cX4_lay 19 = .ok (.invokestatic 28, 3) := by decide +kernel
theorem dX4_lay_22 : decode cX4_lay 22 = .ok (.ifCond .eq 7, 3) := by decide +kernel
theorem dX4_lay_25 : decode cX4_lay 25 = .ok (.iconst 1, 1) := by decide +kernel
theorem dX4_lay_26 : decode cX4_lay 26 = .ok (.goto 4, 3) := by decide +kernel
theorem dX4_lay_29 : decode cX4_lay 29 = .ok (.iconst 0, 1) := by decide +kernel
theorem dX4_lay_30 : decode cX4_lay 30 = .ok (.invokestatic 36, 3) := by decide +kernel
theorem dX4_lay_33 : decode cX4_lay 33 = .ok (.aload_n 0, 1) := by decide +kernel
theorem dX4_lay_34 : decode cX4_lay 34 = .ok (.getfield 21, 3) := by decide +kernel
theorem dX4_lay_37 : decode cX4_lay 37 = .ok (.getfield 82, 3) := by decide +kernel
theorem dX4_lay_40 : decode cX4_lay 40 = .ok (.bipush 12, 2) := by decide +kernel
theorem dX4_lay_42 : decode cX4_lay 42 = .ok (.if_icmp .ge 7, 3) := by decide +kernel
theorem dX4_lay_45 : decode cX4_lay 45 = .ok (.iconst 1, 1) := by decide +kernel
theorem dX4_lay_46 : decode cX4_lay 46 = .ok (.goto 4, 3) := by decide +kernel
theorem dX4_lay_49 : decode cX4_lay 49 = .ok (.iconst 0, 1) := by decide +kernel
theorem dX4_lay_50 : decode cX4_lay 50 = .ok (.invokestatic 51, 3) := by decide +kernel
theorem dX4_lay_53 : decode cX4_lay 53 = .ok (.aload_n 0, 1) := by decide +kernel
theorem dX4_lay_54 : decode cX4_lay 54 = .ok (.getfield 21, 3) := by decide +kernel
theorem dX4_lay_57 : decode cX4_lay 57 = .ok (.iload_n 1, 1) := by decide +kernel
theorem dX4_lay_58 : decode cX4_lay 58 = .ok (.iload_n 2, 1) := by decide +kernel
theorem dX4_lay_59 : decode cX4_lay 59 = .ok (.iload_n 3, 1) := by decide +kernel
theorem dX4_lay_60 : decode cX4_lay 60 = .ok (.invokevirtual 85, 3) := by decide +kernel
theorem dX4_lay_63 : decode cX4_lay 63 = .ok (.ireturn, 1) := by decide +kernel
theorem dX4_turn_0 : decode cX4_turn 0 = .ok (.aload_n 0, 1) := by decide +kernel
theorem dX4_turn_1 : decode cX4_turn 1 = .ok (.iload_n 1, 1) := by decide +kernel
theorem dX4_turn_2 : decode cX4_turn 2 = .ok (.invokevirtual 89, 3) := by decide +kernel
theorem dX4_turn_5 : decode cX4_turn 5 = .ok (.aload_n 0, 1) := by decide +kernel
theorem dX4_turn_6 : decode cX4_turn 6 = .ok (.getfield 21, 3) := by decide +kernel
theorem dX4_turn_9 : decode cX4_turn 9 = .ok (.getfield 92, 3) := by decide +kernel
theorem dX4_turn_12 : decode cX4_turn 12 = .ok (.iload_n 1, 1) := by decide +kernel
theorem dX4_turn_13 : decode cX4_turn 13 = .ok (.aaload, 1) := by decide +kernel
theorem dX4_turn_14 : decode cX4_turn 14 = .ok (.getfield 96, 3) := by decide +kernel
theorem dX4_turn_17 : decode cX4_turn 17 = .ok (.istore_n 3, 1) := by decide +kernel
theorem dX4_turn_18 : decode cX4_turn 18 = .ok (.aload_n 0, 1) := by decide +kernel
theorem dX4_turn_19 : decode cX4_turn 19 = .ok (.getfield 21, 3) := by decide +kernel
theorem dX4_turn_22 : decode cX4_turn 22 = .ok (.getfield 92, 3) := by decide +kernel
theorem dX4_turn_25 : decode cX4_turn 25 = .ok (.iload_n 1, 1) := by decide +kernel
theorem dX4_turn_26 : decode cX4_turn 26 = .ok (.aaload, 1) := by decide +kernel
theorem dX4_turn_27 : decode cX4_turn 27 = .ok (.iload_n 2, 1) := by decide +kernel
theorem dX4_turn_28 : decode cX4_turn 28 = .ok (.putfield 96, 3) := by decide +kernel
theorem dX4_turn_31 : decode cX4_turn 31 = .ok (.iload_n 3, 1) := by decide +kernel
theorem dX4_turn_32 : decode cX4_turn 32 = .ok (.ireturn, 1) := by decide +kernel
theorem dX4_clean_0 : decode cX4_clean 0 = .ok (.aload_n 0, 1) := by decide +kernel
theorem dX4_clean_1 : decode cX4_clean 1 = .ok (.iload_n 1, 1) := by decide +kernel
theorem dX4_clean_2 : decode cX4_clean 2 = .ok (.invokevirtual 58, 3) := by decide +kernel
theorem dX4_clean_5 : decode cX4_clean 5 = .ok (.aload_n 0, 1) := by decide +kernel
theorem dX4_clean_6 : decode cX4_clean 6 = .ok (.getfield 21, 3) := by decide +kernel
theorem dX4_clean_9 : decode cX4_clean 9 = .ok (.getfield 70, 3) := by decide +kernel
theorem dX4_clean_12 : decode cX4_clean 12 = .ok (.iload_n 1, 1) := by decide +kernel
theorem dX4_clean_13 : decode cX4_clean 13 = .ok (.aaload, 1) := by decide +kernel
theorem dX4_clean_14 : decode cX4_clean 14 = .ok (.getfield 102, 3) := by decide +kernel
theorem dX4_clean_17 : decode cX4_clean 17 = .ok (.istore_n 2, 1) := by decide +kernel
theorem dX4_clean_18 : decode cX4_clean 18 = .ok (.aload_n 0, 1) := by decide +kernel
theorem dX4_clean_19 : decode cX4_clean 19 = .ok (.getfield 21, 3) := by decide +kernel
theorem dX4_clean_22 : decode cX4_clean 22 = .ok (.getfield 70, 3) := by decide +kernel
theorem dX4_clean_25 : decode cX4_clean 25 = .ok (.iload_n 1, 1) := by decide +kernel
theorem dX4_clean_26 : decode cX4_clean 26 = .ok (.aaload, 1) := by decide +kernel
theorem dX4_clean_27 : decode cX4_clean 27 = .ok (.iconst 0, 1) := by decide +kernel
theorem dX4_clean_28 : decode cX4_clean 28 = .ok (.putfield 102, 3) := by decide +kernel
theorem dX4_clean_31 : decode cX4_clean 31 = .ok (.iload_n 2, 1) := by decide +kernel
theorem dX4_clean_32 : decode cX4_clean 32 = .ok (.ireturn, 1) := by decide +kernel
theorem dX4_cart_0 : decode cX4_cart 0 = .ok (.aload_n 0, 1) := by decide +kernel
theorem dX4_cart_1 : decode cX4_cart 1 = .ok (.iload_n 1, 1) := by decide +kernel
theorem dX4_cart_2 : decode cX4_cart 2 = .ok (.invokevirtual 58, 3) := by decide +kernel
theorem dX4_cart_5 : decode cX4_cart 5 = .ok (.iload_n 2, 1) := by decide +kernel
theorem dX4_cart_6 : decode cX4_cart 6 = .ok (.iconst 1, 1) := by decide +kernel
theorem dX4_cart_7 : decode cX4_cart 7 = .ok (.sipush 500, 3) := by decide +kernel
theorem dX4_cart_10 : decode cX4_cart 10 = .ok (.invokestatic 28, 3) := by decide +kernel
theorem dX4_cart_13 : decode cX4_cart 13 = .ok (.invokestatic 36, 3) := by decide +kernel
theorem dX4_cart_16 : decode cX4_cart 16 = .ok (.aload_n 0, 1) := by decide +kernel
theorem dX4_cart_17 : decode cX4_cart 17 = .ok (.getfield 21, 3) := by decide +kernel
theorem dX4_cart_20 : decode cX4_cart 20 = .ok (.dup, 1) := by decide +kernel
theorem dX4_cart_21 : decode cX4_cart 21 = .ok (.getfield 105, 3) := by decide +kernel
theorem dX4_cart_24 : decode cX4_cart 24 = .ok (.iload_n 2, 1) := by decide +kernel
theorem dX4_cart_25 : decode cX4_cart 25 = .ok (.iadd, 1) := by decide +kernel
theorem dX4_cart_26 : decode cX4_cart 26 = .ok (.putfield 105, 3) := by decide +kernel
theorem dX4_cart_29 : decode cX4_cart 29 = .ok (.aload_n 0, 1) := by decide +kernel
theorem dX4_cart_30 : decode cX4_cart 30 = .ok (.getfield 21, 3) := by decide +kernel
theorem dX4_cart_33 : decode cX4_cart 33 = .ok (.iload_n 1, 1) := by decide +kernel
theorem dX4_cart_34 : decode cX4_cart 34 = .ok (.iload_n 2, 1) := by decide +kernel
theorem dX4_cart_35 : decode cX4_cart 35 = .ok (.invokevirtual 108, 3) := by decide +kernel
theorem dX4_cart_38 : decode cX4_cart 38 = .ok (.ireturn, 1) := by decide +kernel
theorem dX4_setPeople_0 : decode cX4_setPeople 0 = .ok (.aload_n 0, 1) := by decide +kernel
theorem dX4_setPeople_1 : decode cX4_setPeople 1 = .ok (.iload_n 1, 1) := by decide +kernel
theorem dX4_setPeople_2 : decode cX4_setPeople 2 = .ok (.invokevirtual 58, 3) := by decide +kernel
theorem dX4_setPeople_5 : decode cX4_setPeople 5 = .ok (.iload_n 2, 1) := by decide +kernel
theorem dX4_setPeople_6 : decode cX4_setPeople 6 = .ok (.iconst 0, 1) := by decide +kernel
theorem dX4_setPeople_7 : decode cX4_setPeople 7 = .ok (.bipush 9, 2) := by decide +kernel
theorem dX4_setPeople_9 : decode cX4_setPeople 9 = .ok (.invokestatic 28, 3) := by decide +kernel
theorem dX4_setPeople_12 : decode cX4_setPeople 12 = .ok (.invokestatic 36, 3) := by decide +kernel
theorem dX4_setPeople_15 : decode cX4_setPeople 15 = .ok (.aload_n 0, 1) := by decide +kernel
theorem dX4_setPeople_16 : decode cX4_setPeople 16 = .ok (.getfield 21, 3) := by decide +kernel
theorem dX4_setPeople_19 : decode cX4_setPeople 19 = .ok (.getfield 70, 3) := by decide +kernel
theorem dX4_setPeople_22 : decode cX4_setPeople 22 = .ok (.iload_n 1, 1) := by decide +kernel
theorem dX4_setPeople_23 : decode cX4_setPeople 23 = .ok (.aaload, 1) := by decide +kernel
theorem dX4_setPeople_24 : decode cX4_setPeople 24 = .ok (.getfield 112, 3) := by decide +kernel
theorem dX4_setPeople_27 : decode cX4_setPeople 27 = .ok (.istore_n 3, 1) := by decide +kernel
theorem dX4_setPeople_28 : decode cX4_setPeople 28 = .ok (.aload_n 0, 1) := by decide +kernel
theorem dX4_setPeople_29 : decode cX4_setPeople 29 = .ok (.getfield 21, 3) := by decide +kernel
theorem dX4_setPeople_32 : decode cX4_setPeople 32 = .ok (.getfield 70, 3) := by decide +kernel
theorem dX4_setPeople_35 : decode cX4_setPeople 35 = .ok (.iload_n 1, 1) := by decide +kernel
theorem dX4_setPeople_36 : decode cX4_setPeople 36 = .ok (.aaload, 1) := by decide +kernel
theorem dX4_setPeople_37 : decode cX4_setPeople 37 = .ok (.iload_n 2, 1) := by decide +kernel
theorem dX4_setPeople_38 : decode cX4_setPeople 38 = .ok (.putfield 112, 3) := by decide +kernel
theorem dX4_setPeople_41 : decode cX4_setPeople 41 = .ok (.iload_n 3, 1) := by decide +kernel
theorem dX4_setPeople_42 : decode cX4_setPeople 42 = .ok (.ireturn, 1) := by decide +kernel
theorem dX4_house_0 : decode cX4_house 0 = .ok (.aload_n 0, 1) := by decide +kernel
theorem dX4_house_1 : decode cX4_house 1 = .ok (.iload_n 1, 1) := by decide +kernel
theorem dX4_house_2 : decode cX4_house 2 = .ok (.invokevirtual 58, 3) := by decide +kernel
theorem dX4_house_5 : decode cX4_house 5 = .ok (.iload_n 2, 1) := by decide +kernel
theorem dX4_house_6 : decode cX4_house 6 = .ok (.iconst 0, 1) := by decide +kernel
theorem dX4_house_7 : decode cX4_house 7 = .ok (.bipush 9, 2) := by decide +kernel
theorem dX4_house_9 : decode cX4_house 9 = .ok (.invokestatic 28, 3) := by decide +kernel
theorem dX4_house_12 : decode cX4_house 12 = .ok (.invokestatic 32, 3) := by decide +kernel
theorem dX4_house_15 : decode cX4_house 15 = .ok (.aload_n 0, 1) := by decide +kernel
theorem dX4_house_16 : decode cX4_house 16 = .ok (.getfield 21, 3) := by decide +kernel
theorem dX4_house_19 : decode cX4_house 19 = .ok (.getfield 70, 3) := by decide +kernel
theorem dX4_house_22 : decode cX4_house 22 = .ok (.iload_n 1, 1) := by decide +kernel
theorem dX4_house_23 : decode cX4_house 23 = .ok (.aaload, 1) := by decide +kernel
theorem dX4_house_24 : decode cX4_house 24 = .ok (.iload_n 2, 1) := by decide +kernel
theorem dX4_house_25 : decode cX4_house 25 = .ok (.invokevirtual 115, 3) := by decide +kernel
theorem dX4_house_28 : decode cX4_house 28 = .ok (.ireturn, 1) := by decide +kernel
theorem dX4_pipe_0 : decode cX4_pipe 0 = .ok (.aload_n 0, 1) := by decide +kernel
theorem dX4_pipe_1 : decode cX4_pipe 1 = .ok (.iload_n 1, 1) := by decide +kernel
theorem dX4_pipe_2 : decode cX4_pipe 2 = .ok (.invokevirtual 89, 3) := by decide +kernel
theorem dX4_pipe_5 : decode cX4_pipe 5 = .ok (.iload_n 2, 1) := by decide +kernel
theorem dX4_pipe_6 : decode cX4_pipe 6 = .ok (.iconst 0, 1) := by decide +kernel
theorem dX4_pipe_7 : decode cX4_pipe 7 = .ok (.iconst 4, 1) := by decide +kernel
theorem dX4_pipe_8 : decode cX4_pipe 8 = .ok (.invokestatic 28, 3) := by decide +kernel
theorem dX4_pipe_11 : decode cX4_pipe 11 = .ok (.invokestatic 32, 3) := by decide +kernel
theorem dX4_pipe_14 : decode cX4_pipe 14 = .ok (.aload_n 0, 1) := by decide +kernel
theorem dX4_pipe_15 : decode cX4_pipe 15 = .ok (.getfield 21, 3) := by decide +kernel
theorem dX4_pipe_18 : decode cX4_pipe 18 = .ok (.getfield 92, 3) := by decide +kernel
theorem dX4_pipe_21 : decode cX4_pipe 21 = .ok (.iload_n 1, 1) := by decide +kernel
theorem dX4_pipe_22 : decode cX4_pipe 22 = .ok (.aaload, 1) := by decide +kernel
theorem dX4_pipe_23 : decode cX4_pipe 23 = .ok (.iload_n 2, 1) := by decide +kernel
theorem dX4_pipe_24 : decode cX4_pipe 24 = .ok (.invokevirtual 118, 3) := by decide +kernel
theorem dX4_pipe_27 : decode cX4_pipe 27 = .ok (.ireturn, 1) := by decide +kernel
theorem dX4_owes_0 : decode cX4_owes 0 = .ok (.aload_n 0, 1) := by decide +kernel
theorem dX4_owes_1 : decode cX4_owes 1 = .ok (.iload_n 1, 1) := by decide +kernel
theorem dX4_owes_2 : decode cX4_owes 2 = .ok (.invokevirtual 58, 3) := by decide +kernel
theorem dX4_owes_5 : decode cX4_owes 5 = .ok (.aload_n 0, 1) := by decide +kernel
theorem dX4_owes_6 : decode cX4_owes 6 = .ok (.iload_n 2, 1) := by decide +kernel
theorem dX4_owes_7 : decode cX4_owes 7 = .ok (.invokevirtual 58, 3) := by decide +kernel
theorem dX4_owes_10 : decode cX4_owes 10 = .ok (.aload_n 0, 1) := by decide +kernel
theorem dX4_owes_11 : decode cX4_owes 11 = .ok (.getfield 21, 3) := by decide +kernel
theorem dX4_owes_14 : decode cX4_owes 14 = .ok (.iload_n 1, 1) := by decide +kernel
theorem dX4_owes_15 : decode cX4_owes 15 = .ok (.iload_n 2, 1) := by decide +kernel
theorem dX4_owes_16 : decode cX4_owes 16 = .ok (.invokevirtual 119, 3) := by decide +kernel
theorem dX4_owes_19 : decode cX4_owes 19 = .ok (.ireturn, 1) := by decide +kernel
theorem dX4_pass_0 : decode cX4_pass 0 = .ok (.iload_n 1, 1) := by decide +kernel
theorem dX4_pass_1 : decode cX4_pass 1 = .ok (.iconst 1, 1) := by decide +kernel
theorem dX4_pass_2 : decode cX4_pass 2 = .ok (.bipush 100, 2) := by decide +kernel
theorem dX4_pass_4 : decode cX4_pass 4 = .ok (.invokestatic 28, 3) := by decide +kernel
theorem dX4_pass_7 : decode cX4_pass 7 = .ok (.invokestatic 36, 3) := by decide +kernel
theorem dX4_pass_10 : decode cX4_pass 10 = .ok (.aload_n 0, 1) := by decide +kernel
theorem dX4_pass_11 : decode cX4_pass 11 = .ok (.getfield 21, 3) := by decide +kernel
theorem dX4_pass_14 : decode cX4_pass 14 = .ok (.iload_n 1, 1) := by decide +kernel
theorem dX4_pass_15 : decode cX4_pass 15 = .ok (.invokevirtual 122, 3) := by decide +kernel
theorem dX4_pass_18 : decode cX4_pass 18 = .ok (.ireturn, 1) := by decide +kernel
theorem dX4_count_0 : decode cX4_count 0 = .ok (.iload_n 1, 1) := by decide +kernel
theorem dX4_count_1 : decode cX4_count 1 = .ok (.iconst 0, 1) := by decide +kernel
theorem dX4_count_2 : decode cX4_count 2 = .ok (.bipush 10, 2) := by decide +kernel
theorem dX4_count_4 : decode cX4_count 4 = .ok (.invokestatic 28, 3) := by decide +kernel
theorem dX4_count_7 : decode cX4_count 7 = .ok (.invokestatic 32, 3) := by decide +kernel
theorem dX4_count_10 : decode cX4_count 10 = .ok (.aload_n 0, 1) := by decide +kernel
theorem dX4_count_11 : decode cX4_count 11 = .ok (.getfield 21, 3) := by decide +kernel
theorem dX4_count_14 : decode cX4_count 14 = .ok (.iload_n 1, 1) := by decide +kernel
theorem dX4_count_15 : decode cX4_count 15 = .ok (.invokevirtual 125, 3) := by decide +kernel
theorem dX4_count_18 : decode cX4_count 18 = .ok (.ireturn, 1) := by decide +kernel
theorem dX4_foresee_0 : decode cX4_foresee 0 = .ok (.iload_n 1, 1) := by decide +kernel
theorem dX4_foresee_1 : decode cX4_foresee 1 = .ok (.iconst 1, 1) := by decide +kernel
theorem dX4_foresee_2 : decode cX4_foresee 2 = .ok (.bipush 100, 2) := by decide +kernel
theorem dX4_foresee_4 : decode cX4_foresee 4 = .ok (.invokestatic 28, 3) := by decide +kernel
theorem dX4_foresee_7 : decode cX4_foresee 7 = .ok (.invokestatic 36, 3) := by decide +kernel
theorem dX4_foresee_10 : decode cX4_foresee 10 = .ok (.iload_n 2, 1) := by decide +kernel
theorem dX4_foresee_11 : decode cX4_foresee 11 = .ok (.iconst 0, 1) := by decide +kernel
theorem dX4_foresee_12 : decode cX4_foresee 12 = .ok (.iconst 2, 1) := by decide +kernel
theorem dX4_foresee_13 : decode cX4_foresee 13 = .ok (.invokestatic 28, 3) := by decide +kernel
theorem dX4_foresee_16 : decode cX4_foresee 16 = .ok (.invokestatic 32, 3) := by decide +kernel
theorem dX4_foresee_19 : decode cX4_foresee 19 = .ok (.aload_n 0, 1) := by decide +kernel
theorem dX4_foresee_20 : decode cX4_foresee 20 = .ok (.getfield 25, 3) := by decide +kernel
theorem dX4_foresee_23 : decode cX4_foresee 23 = .ok (.aload_n 0, 1) := by decide +kernel
theorem dX4_foresee_24 : decode cX4_foresee 24 = .ok (.getfield 21, 3) := by decide +kernel
theorem dX4_foresee_27 : decode cX4_foresee 27 = .ok (.invokevirtual 128, 3) := by decide +kernel
theorem dX4_foresee_30 : decode cX4_foresee 30 = .ok (.aload_n 0, 1) := by decide +kernel
theorem dX4_foresee_31 : decode cX4_foresee 31 = .ok (.getfield 25, 3) := by decide +kernel
theorem dX4_foresee_34 : decode cX4_foresee 34 = .ok (.iload_n 1, 1) := by decide +kernel
theorem dX4_foresee_35 : decode cX4_foresee 35 = .ok (.invokevirtual 122, 3) := by decide +kernel
theorem dX4_foresee_38 : decode cX4_foresee 38 = .ok (.istore_n 3, 1) := by decide +kernel
theorem dX4_foresee_39 : decode cX4_foresee 39 = .ok (.iload_n 2, 1) := by decide +kernel
theorem dX4_foresee_40 : decode cX4_foresee 40 = .ok (.lookupswitch 38 #[(0, 28), (1, 30)], 28) := by decide +kernel
theorem dX4_foresee_68 : decode cX4_foresee 68 = .ok (.iload_n 3, 1) := by decide +kernel
theorem dX4_foresee_69 : decode cX4_foresee 69 = .ok (.ireturn, 1) := by decide +kernel
theorem dX4_foresee_70 : decode cX4_foresee 70 = .ok (.aload_n 0, 1) := by decide +kernel
theorem dX4_foresee_71 : decode cX4_foresee 71 = .ok (.getfield 25, 3) := by decide +kernel
theorem dX4_foresee_74 : decode cX4_foresee 74 = .ok (.invokevirtual 132, 3) := by decide +kernel
theorem dX4_foresee_77 : decode cX4_foresee 77 = .ok (.ireturn, 1) := by decide +kernel
theorem dX4_foresee_78 : decode cX4_foresee 78 = .ok (.aload_n 0, 1) := by decide +kernel
theorem dX4_foresee_79 : decode cX4_foresee 79 = .ok (.getfield 25, 3) := by decide +kernel
theorem dX4_foresee_82 : decode cX4_foresee 82 = .ok (.getfield 136, 3) := by decide +kernel
theorem dX4_foresee_85 : decode cX4_foresee 85 = .ok (.aload_n 0, 1) := by decide +kernel
theorem dX4_foresee_86 : decode cX4_foresee 86 = .ok (.getfield 21, 3) := by decide +kernel
theorem dX4_foresee_89 : decode cX4_foresee 89 = .ok (.getfield 136, 3) := by decide +kernel
theorem dX4_foresee_92 : decode cX4_foresee 92 = .ok (.isub, 1) := by decide +kernel
theorem dX4_foresee_93 : decode cX4_foresee 93 = .ok (.ireturn, 1) := by decide +kernel
theorem dX4_lasts_0 : decode cX4_lasts 0 = .ok (.aload_n 0, 1) := by decide +kernel
theorem dX4_lasts_1 : decode cX4_lasts 1 = .ok (.iload_n 1, 1) := by decide +kernel
theorem dX4_lasts_2 : decode cX4_lasts 2 = .ok (.invokevirtual 58, 3) := by decide +kernel
theorem dX4_lasts_5 : decode cX4_lasts 5 = .ok (.aload_n 0, 1) := by decide +kernel
theorem dX4_lasts_6 : decode cX4_lasts 6 = .ok (.getfield 25, 3) := by decide +kernel
theorem dX4_lasts_9 : decode cX4_lasts 9 = .ok (.aload_n 0, 1) := by decide +kernel
theorem dX4_lasts_10 : decode cX4_lasts 10 = .ok (.getfield 21, 3) := by decide +kernel
theorem dX4_lasts_13 : decode cX4_lasts 13 = .ok (.invokevirtual 128, 3) := by decide +kernel
theorem dX4_lasts_16 : decode cX4_lasts 16 = .ok (.aload_n 0, 1) := by decide +kernel
theorem dX4_lasts_17 : decode cX4_lasts 17 = .ok (.getfield 25, 3) := by decide +kernel
theorem dX4_lasts_20 : decode cX4_lasts 20 = .ok (.iload_n 1, 1) := by decide +kernel
theorem dX4_lasts_21 : decode cX4_lasts 21 = .ok (.sipush 200, 3) := by decide +kernel
theorem dX4_lasts_24 : decode cX4_lasts 24 = .ok (.invokevirtual 139, 3) := by decide +kernel
theorem dX4_lasts_27 : decode cX4_lasts 27 = .ok (.ireturn, 1) := by decide +kernel
theorem dX4_needs_0 : decode cX4_needs 0 = .ok (.aload_n 0, 1) := by decide +kernel
theorem dX4_needs_1 : decode cX4_needs 1 = .ok (.iload_n 1, 1) := by decide +kernel
theorem dX4_needs_2 : decode cX4_needs 2 = .ok (.invokevirtual 58, 3) := by decide +kernel
theorem dX4_needs_5 : decode cX4_needs 5 = .ok (.iload_n 2, 1) := by decide +kernel
theorem dX4_needs_6 : decode cX4_needs 6 = .ok (.iconst 1, 1) := by decide +kernel
theorem dX4_needs_7 : decode cX4_needs 7 = .ok (.bipush 60, 2) := by decide +kernel
theorem dX4_needs_9 : decode cX4_needs 9 = .ok (.invokestatic 28, 3) := by decide +kernel
theorem dX4_needs_12 : decode cX4_needs 12 = .ok (.invokestatic 36, 3) := by decide +kernel
theorem dX4_needs_15 : decode cX4_needs 15 = .ok (.bipush 10, 2) := by decide +kernel
theorem dX4_needs_17 : decode cX4_needs 17 = .ok (.istore_n 3, 1) := by decide +kernel
theorem dX4_needs_18 : decode cX4_needs 18 = .ok (.iload_n 3, 1) := by decide +kernel
theorem dX4_needs_19 : decode cX4_needs 19 = .ok (.sipush 900, 3) := by decide +kernel
theorem dX4_needs_22 : decode cX4_needs 22 = .ok (.if_icmp .gt 48, 3) := by decide +kernel
theorem dX4_needs_25 : decode cX4_needs 25 = .ok (.aload_n 0, 1) := by decide +kernel
theorem dX4_needs_26 : decode cX4_needs 26 = .ok (.getfield 25, 3) := by decide +kernel
theorem dX4_needs_29 : decode cX4_needs 29 = .ok (.aload_n 0, 1) := by decide +kernel
theorem dX4_needs_30 : decode cX4_needs 30 = .ok (.getfield 21, 3) := by decide +kernel
theorem dX4_needs_33 : decode cX4_needs 33 = .ok (.invokevirtual 128, 3) := by decide +kernel
theorem dX4_needs_36 : decode cX4_needs 36 = .ok (.aload_n 0, 1) := by decide +kernel
theorem dX4_needs_37 : decode cX4_needs 37 = .ok (.getfield 25, 3) := by decide +kernel
theorem dX4_needs_40 : decode cX4_needs 40 = .ok (.getfield 70, 3) := by decide +kernel
theorem dX4_needs_43 : decode cX4_needs 43 = .ok (.iload_n 1, 1) := by decide +kernel
theorem dX4_needs_44 : decode cX4_needs 44 = .ok (.aaload, 1) := by decide +kernel
theorem dX4_needs_45 : decode cX4_needs 45 = .ok (.iload_n 3, 1) := by decide +kernel
theorem dX4_needs_46 : decode cX4_needs 46 = .ok (.invokevirtual 142, 3) := by decide +kernel
theorem dX4_needs_49 : decode cX4_needs 49 = .ok (.aload_n 0, 1) := by decide +kernel
theorem dX4_needs_50 : decode cX4_needs 50 = .ok (.getfield 25, 3) := by decide +kernel
theorem dX4_needs_53 : decode cX4_needs 53 = .ok (.iload_n 1, 1) := by decide +kernel
theorem dX4_needs_54 : decode cX4_needs 54 = .ok (.iload_n 2, 1) := by decide +kernel
theorem dX4_needs_55 : decode cX4_needs 55 = .ok (.invokevirtual 139, 3) := by decide +kernel
theorem dX4_needs_58 : decode cX4_needs 58 = .ok (.iconst (-1), 1) := by decide +kernel
theorem dX4_needs_59 : decode cX4_needs 59 = .ok (.if_icmp .ne 5, 3) := by decide +kernel
theorem dX4_needs_62 : decode cX4_needs 62 = .ok (.iload_n 3, 1) := by decide +kernel
theorem dX4_needs_63 : decode cX4_needs 63 = .ok (.ireturn, 1) := by decide +kernel
theorem dX4_needs_64 : decode cX4_needs 64 = .ok (.iinc 3 10, 3) := by decide +kernel
theorem dX4_needs_67 : decode cX4_needs 67 = .ok (.goto (-49), 3) := by decide +kernel
theorem dX4_needs_70 : decode cX4_needs 70 = .ok (.iconst (-1), 1) := by decide +kernel
theorem dX4_needs_71 : decode cX4_needs 71 = .ok (.ireturn, 1) := by decide +kernel
theorem dX4_dirty_0 : decode cX4_dirty 0 = .ok (.iload_n 1, 1) := by decide +kernel
theorem dX4_dirty_1 : decode cX4_dirty 1 = .ok (.iconst 1, 1) := by decide +kernel
theorem dX4_dirty_2 : decode cX4_dirty 2 = .ok (.bipush 60, 2) := by decide +kernel
theorem dX4_dirty_4 : decode cX4_dirty 4 = .ok (.invokestatic 28, 3) := by decide +kernel
theorem dX4_dirty_7 : decode cX4_dirty 7 = .ok (.invokestatic 36, 3) := by decide +kernel
theorem dX4_dirty_10 : decode cX4_dirty 10 = .ok (.aload_n 0, 1) := by decide +kernel
theorem dX4_dirty_11 : decode cX4_dirty 11 = .ok (.getfield 25, 3) := by decide +kernel
theorem dX4_dirty_14 : decode cX4_dirty 14 = .ok (.aload_n 0, 1) := by decide +kernel
theorem dX4_dirty_15 : decode cX4_dirty 15 = .ok (.getfield 21, 3) := by decide +kernel
theorem dX4_dirty_18 : decode cX4_dirty 18 = .ok (.invokevirtual 128, 3) := by decide +kernel
theorem dX4_dirty_21 : decode cX4_dirty 21 = .ok (.aload_n 0, 1) := by decide +kernel
theorem dX4_dirty_22 : decode cX4_dirty 22 = .ok (.getfield 25, 3) := by decide +kernel
theorem dX4_dirty_25 : decode cX4_dirty 25 = .ok (.iload_n 1, 1) := by decide +kernel
theorem dX4_dirty_26 : decode cX4_dirty 26 = .ok (.invokevirtual 122, 3) := by decide +kernel
theorem dX4_dirty_29 : decode cX4_dirty 29 = .ok (.istore_n 2, 1) := by decide +kernel
theorem dX4_dirty_30 : decode cX4_dirty 30 = .ok (.iconst (-1), 1) := by decide +kernel
theorem dX4_dirty_31 : decode cX4_dirty 31 = .ok (.istore_n 3, 1) := by decide +kernel
theorem dX4_dirty_32 : decode cX4_dirty 32 = .ok (.iconst 0, 1) := by decide +kernel
theorem dX4_dirty_33 : decode cX4_dirty 33 = .ok (.istore 4, 2) := by decide +kernel
theorem dX4_dirty_35 : decode cX4_dirty 35 = .ok (.iload 4, 2) := by decide +kernel
theorem dX4_dirty_37 : decode cX4_dirty 37 = .ok (.aload_n 0, 1) := by decide +kernel
theorem dX4_dirty_38 : decode cX4_dirty 38 = .ok (.getfield 21, 3) := by decide +kernel
theorem dX4_dirty_41 : decode cX4_dirty 41 = .ok (.getfield 47, 3) := by decide +kernel
theorem dX4_dirty_44 : decode cX4_dirty 44 = .ok (.if_icmp .ge 56, 3) := by decide +kernel
theorem dX4_dirty_47 : decode cX4_dirty 47 = .ok (.aload_n 0, 1) := by decide +kernel
theorem dX4_dirty_48 : decode cX4_dirty 48 = .ok (.getfield 25, 3) := by decide +kernel
theorem dX4_dirty_51 : decode cX4_dirty 51 = .ok (.aload_n 0, 1) := by decide +kernel
theorem dX4_dirty_52 : decode cX4_dirty 52 = .ok (.getfield 21, 3) := by decide +kernel
theorem dX4_dirty_55 : decode cX4_dirty 55 = .ok (.invokevirtual 128, 3) := by decide +kernel
theorem dX4_dirty_58 : decode cX4_dirty 58 = .ok (.aload_n 0, 1) := by decide +kernel
theorem dX4_dirty_59 : decode cX4_dirty 59 = .ok (.getfield 25, 3) := by decide +kernel
theorem dX4_dirty_62 : decode cX4_dirty 62 = .ok (.getfield 70, 3) := by decide +kernel
theorem dX4_dirty_65 : decode cX4_dirty 65 = .ok (.iload 4, 2) := by decide +kernel
theorem dX4_dirty_67 : decode cX4_dirty 67 = .ok (.aaload, 1) := by decide +kernel
theorem dX4_dirty_68 : decode cX4_dirty 68 = .ok (.iconst 0, 1) := by decide +kernel
theorem dX4_dirty_69 : decode cX4_dirty 69 = .ok (.putfield 102, 3) := by decide +kernel
theorem dX4_dirty_72 : decode cX4_dirty 72 = .ok (.aload_n 0, 1) := by decide +kernel
theorem dX4_dirty_73 : decode cX4_dirty 73 = .ok (.getfield 25, 3) := by decide +kernel
theorem dX4_dirty_76 : decode cX4_dirty 76 = .ok (.iload_n 1, 1) := by decide +kernel
theorem dX4_dirty_77 : decode cX4_dirty 77 = .ok (.invokevirtual 122, 3) := by decide +kernel
theorem dX4_dirty_80 : decode cX4_dirty 80 = .ok (.istore 5, 2) := by decide +kernel
theorem dX4_dirty_82 : decode cX4_dirty 82 = .ok (.iload 5, 2) := by decide +kernel
theorem dX4_dirty_84 : decode cX4_dirty 84 = .ok (.iload_n 2, 1) := by decide +kernel
theorem dX4_dirty_85 : decode cX4_dirty 85 = .ok (.if_icmp .ge 9, 3) := by decide +kernel
theorem dX4_dirty_88 : decode cX4_dirty 88 = .ok (.iload 5, 2) := by decide +kernel
theorem dX4_dirty_90 : decode cX4_dirty 90 = .ok (.istore_n 2, 1) := by decide +kernel
theorem dX4_dirty_91 : decode cX4_dirty 91 = .ok (.iload 4, 2) := by decide +kernel
theorem dX4_dirty_93 : decode cX4_dirty 93 = .ok (.istore_n 3, 1) := by decide +kernel
theorem dX4_dirty_94 : decode cX4_dirty 94 = .ok (.iinc 4 1, 3) := by decide +kernel
theorem dX4_dirty_97 : decode cX4_dirty 97 = .ok (.goto (-62), 3) := by decide +kernel
theorem dX4_dirty_100 : decode cX4_dirty 100 = .ok (.iload_n 3, 1) := by decide +kernel
theorem dX4_dirty_101 : decode cX4_dirty 101 = .ok (.ireturn, 1) := by decide +kernel
theorem dX4_advise_0 : decode cX4_advise 0 = .ok (.iload_n 1, 1) := by decide +kernel
theorem dX4_advise_1 : decode cX4_advise 1 = .ok (.iconst 1, 1) := by decide +kernel
theorem dX4_advise_2 : decode cX4_advise 2 = .ok (.bipush 60, 2) := by decide +kernel
theorem dX4_advise_4 : decode cX4_advise 4 = .ok (.invokestatic 28, 3) := by decide +kernel
theorem dX4_advise_7 : decode cX4_advise 7 = .ok (.invokestatic 36, 3) := by decide +kernel
theorem dX4_advise_10 : decode cX4_advise 10 = .ok (.aload_n 0, 1) := by decide +kernel
theorem dX4_advise_11 : decode cX4_advise 11 = .ok (.getfield 25, 3) := by decide +kernel
theorem dX4_advise_14 : decode cX4_advise 14 = .ok (.aload_n 0, 1) := by decide +kernel
theorem dX4_advise_15 : decode cX4_advise 15 = .ok (.getfield 21, 3) := by decide +kernel
theorem dX4_advise_18 : decode cX4_advise 18 = .ok (.invokevirtual 128, 3) := by decide +kernel
theorem dX4_advise_21 : decode cX4_advise 21 = .ok (.aload_n 0, 1) := by decide +kernel
theorem dX4_advise_22 : decode cX4_advise 22 = .ok (.getfield 25, 3) := by decide +kernel
theorem dX4_advise_25 : decode cX4_advise 25 = .ok (.iload_n 1, 1) := by decide +kernel
theorem dX4_advise_26 : decode cX4_advise 26 = .ok (.invokevirtual 122, 3) := by decide +kernel
theorem dX4_advise_29 : decode cX4_advise 29 = .ok (.istore_n 2, 1) := by decide +kernel
theorem dX4_advise_30 : decode cX4_advise 30 = .ok (.iconst (-1), 1) := by decide +kernel
theorem dX4_advise_31 : decode cX4_advise 31 = .ok (.istore_n 3, 1) := by decide +kernel
theorem dX4_advise_32 : decode cX4_advise 32 = .ok (.iconst 0, 1) := by decide +kernel
theorem dX4_advise_33 : decode cX4_advise 33 = .ok (.istore 4, 2) := by decide +kernel
theorem dX4_advise_35 : decode cX4_advise 35 = .ok (.iload 4, 2) := by decide +kernel
theorem dX4_advise_37 : decode cX4_advise 37 = .ok (.aload_n 0, 1) := by decide +kernel
theorem dX4_advise_38 : decode cX4_advise 38 = .ok (.getfield 21, 3) := by decide +kernel
theorem dX4_advise_41 : decode cX4_advise 41 = .ok (.getfield 82, 3) := by decide +kernel
theorem dX4_advise_44 : decode cX4_advise 44 = .ok (.if_icmp .ge 76, 3) := by decide +kernel
theorem dX4_advise_47 : decode cX4_advise 47 = .ok (.aload_n 0, 1) := by decide +kernel
theorem dX4_advise_48 : decode cX4_advise 48 = .ok (.getfield 25, 3) := by decide +kernel
theorem dX4_advise_51 : decode cX4_advise 51 = .ok (.aload_n 0, 1) := by decide +kernel
theorem dX4_advise_52 : decode cX4_advise 52 = .ok (.getfield 21, 3) := by decide +kernel
theorem dX4_advise_55 : decode cX4_advise 55 = .ok (.invokevirtual 128, 3) := by decide +kernel
theorem dX4_advise_58 : decode cX4_advise 58 = .ok (.aload_n 0, 1) := by decide +kernel
theorem dX4_advise_59 : decode cX4_advise 59 = .ok (.getfield 25, 3) := by decide +kernel
theorem dX4_advise_62 : decode cX4_advise 62 = .ok (.getfield 92, 3) := by decide +kernel
theorem dX4_advise_65 : decode cX4_advise 65 = .ok (.iload 4, 2) := by decide +kernel
theorem dX4_advise_67 : decode cX4_advise 67 = .ok (.aaload, 1) := by decide +kernel
theorem dX4_advise_68 : decode cX4_advise 68 = .ok (.aload_n 0, 1) := by decide +kernel
theorem dX4_advise_69 : decode cX4_advise 69 = .ok (.getfield 25, 3) := by decide +kernel
theorem dX4_advise_72 : decode cX4_advise 72 = .ok (.getfield 92, 3) := by decide +kernel
theorem dX4_advise_75 : decode cX4_advise 75 = .ok (.iload 4, 2) := by decide +kernel
theorem dX4_advise_77 : decode cX4_advise 77 = .ok (.aaload, 1) := by decide +kernel
theorem dX4_advise_78 : decode cX4_advise 78 = .ok (.getfield 96, 3) := by decide +kernel
theorem dX4_advise_81 : decode cX4_advise 81 = .ok (.ifCond .ne 7, 3) := by decide +kernel
theorem dX4_advise_84 : decode cX4_advise 84 = .ok (.iconst 1, 1) := by decide +kernel
theorem dX4_advise_85 : decode cX4_advise 85 = .ok (.goto 4, 3) := by decide +kernel
theorem dX4_advise_88 : decode cX4_advise 88 = .ok (.iconst 0, 1) := by decide +kernel
theorem dX4_advise_89 : decode cX4_advise 89 = .ok (.putfield 96, 3) := by decide +kernel
theorem dX4_advise_92 : decode cX4_advise 92 = .ok (.aload_n 0, 1) := by decide +kernel
theorem dX4_advise_93 : decode cX4_advise 93 = .ok (.getfield 25, 3) := by decide +kernel
theorem dX4_advise_96 : decode cX4_advise 96 = .ok (.iload_n 1, 1) := by decide +kernel
theorem dX4_advise_97 : decode cX4_advise 97 = .ok (.invokevirtual 122, 3) := by decide +kernel
theorem dX4_advise_100 : decode cX4_advise 100 = .ok (.istore 5, 2) := by decide +kernel
theorem dX4_advise_102 : decode cX4_advise 102 = .ok (.iload 5, 2) := by decide +kernel
theorem dX4_advise_104 : decode cX4_advise 104 = .ok (.iload_n 2, 1) := by decide +kernel
theorem dX4_advise_105 : decode cX4_advise 105 = .ok (.if_icmp .ge 9, 3) := by decide +kernel
theorem dX4_advise_108 : decode cX4_advise 108 = .ok (.iload 5, 2) := by decide +kernel
theorem dX4_advise_110 : decode cX4_advise 110 = .ok (.istore_n 2, 1) := by decide +kernel
theorem dX4_advise_111 : decode cX4_advise 111 = .ok (.iload 4, 2) := by decide +kernel
theorem dX4_advise_113 : decode cX4_advise 113 = .ok (.istore_n 3, 1) := by decide +kernel
theorem dX4_advise_114 : decode cX4_advise 114 = .ok (.iinc 4 1, 3) := by decide +kernel
theorem dX4_advise_117 : decode cX4_advise 117 = .ok (.goto (-82), 3) := by decide +kernel
theorem dX4_advise_120 : decode cX4_advise 120 = .ok (.iload_n 3, 1) := by decide +kernel
theorem dX4_advise_121 : decode cX4_advise 121 = .ok (.ireturn, 1) := by decide +kernel
theorem dX4_drought_0 : decode cX4_drought 0 = .ok (.aload_n 0, 1) := by decide +kernel
theorem dX4_drought_1 : decode cX4_drought 1 = .ok (.getfield 10, 3) := by decide +kernel
theorem dX4_drought_4 : decode cX4_drought 4 = .ok (.invokevirtual 145, 3) := by decide +kernel
theorem dX4_drought_7 : decode cX4_drought 7 = .ok (.ireturn, 1) := by decide +kernel
theorem dX4_full_0 : decode cX4_full 0 = .ok (.aload_n 0, 1) := by decide +kernel
theorem dX4_full_1 : decode cX4_full 1 = .ok (.getfield 21, 3) := by decide +kernel
theorem dX4_full_4 : decode cX4_full 4 = .ok (.invokevirtual 148, 3) := by decide +kernel
theorem dX4_full_7 : decode cX4_full 7 = .ok (.istore_n 1, 1) := by decide +kernel
theorem dX4_full_8 : decode cX4_full 8 = .ok (.iload_n 1, 1) := by decide +kernel
theorem dX4_full_9 : decode cX4_full 9 = .ok (.ifCond .le 17, 3) := by decide +kernel
theorem dX4_full_12 : decode cX4_full 12 = .ok (.aload_n 0, 1) := by decide +kernel
theorem dX4_full_13 : decode cX4_full 13 = .ok (.getfield 21, 3) := by decide +kernel
theorem dX4_full_16 : decode cX4_full 16 = .ok (.invokevirtual 132, 3) := by decide +kernel
theorem dX4_full_19 : decode cX4_full 19 = .ok (.i2d, 1) := by decide +kernel
theorem dX4_full_20 : decode cX4_full 20 = .ok (.iload_n 1, 1) := by decide +kernel
theorem dX4_full_21 : decode cX4_full 21 = .ok (.i2d, 1) := by decide +kernel
theorem dX4_full_22 : decode cX4_full 22 = .ok (.ddiv, 1) := by decide +kernel
theorem dX4_full_23 : decode cX4_full 23 = .ok (.goto 4, 3) := by decide +kernel
theorem dX4_full_26 : decode cX4_full 26 = .ok (.dconst 0, 1) := by decide +kernel
theorem dX4_full_27 : decode cX4_full 27 = .ok (.dreturn, 1) := by decide +kernel
theorem dX4_digest_0 : decode cX4_digest 0 = .ok (.ldc2_w 151, 3) := by decide +kernel
theorem dX4_digest_3 : decode cX4_digest 3 = .ok (.lstore_n 1, 1) := by decide +kernel
theorem dX4_digest_4 : decode cX4_digest 4 = .ok (.iconst 0, 1) := by decide +kernel
theorem dX4_digest_5 : decode cX4_digest 5 = .ok (.istore_n 3, 1) := by decide +kernel
theorem dX4_digest_6 : decode cX4_digest 6 = .ok (.iload_n 3, 1) := by decide +kernel
theorem dX4_digest_7 : decode cX4_digest 7 = .ok (.bipush 11, 2) := by decide +kernel
theorem dX4_digest_9 : decode cX4_digest 9 = .ok (.if_icmp .ge 23, 3) := by decide +kernel
theorem dX4_digest_12 : decode cX4_digest 12 = .ok (.lload_n 1, 1) := by decide +kernel
theorem dX4_digest_13 : decode cX4_digest 13 = .ok (.aload_n 0, 1) := by decide +kernel
theorem dX4_digest_14 : decode cX4_digest 14 = .ok (.getfield 21, 3) := by decide +kernel
theorem dX4_digest_17 : decode cX4_digest 17 = .ok (.iload_n 3, 1) := by decide +kernel
theorem dX4_digest_18 : decode cX4_digest 18 = .ok (.invokevirtual 125, 3) := by decide +kernel
theorem dX4_digest_21 : decode cX4_digest 21 = .ok (.i2l, 1) := by decide +kernel
theorem dX4_digest_22 : decode cX4_digest 22 = .ok (.invokestatic 153, 3) := by decide +kernel
theorem dX4_digest_25 : decode cX4_digest 25 = .ok (.lstore_n 1, 1) := by decide +kernel
theorem dX4_digest_26 : decode cX4_digest 26 = .ok (.iinc 3 1, 3) := by decide +kernel
theorem dX4_digest_29 : decode cX4_digest 29 = .ok (.goto (-23), 3) := by decide +kernel
theorem dX4_digest_32 : decode cX4_digest 32 = .ok (.iconst 0, 1) := by decide +kernel
theorem dX4_digest_33 : decode cX4_digest 33 = .ok (.istore_n 3, 1) := by decide +kernel
theorem dX4_digest_34 : decode cX4_digest 34 = .ok (.iload_n 3, 1) := by decide +kernel
theorem dX4_digest_35 : decode cX4_digest 35 = .ok (.bipush 28, 2) := by decide +kernel
theorem dX4_digest_37 : decode cX4_digest 37 = .ok (.if_icmp .ge 23, 3) := by decide +kernel
theorem dX4_digest_40 : decode cX4_digest 40 = .ok (.lload_n 1, 1) := by decide +kernel
theorem dX4_digest_41 : decode cX4_digest 41 = .ok (.aload_n 0, 1) := by decide +kernel
theorem dX4_digest_42 : decode cX4_digest 42 = .ok (.getfield 10, 3) := by decide +kernel
theorem dX4_digest_45 : decode cX4_digest 45 = .ok (.iload_n 3, 1) := by decide +kernel
theorem dX4_digest_46 : decode cX4_digest 46 = .ok (.invokevirtual 39, 3) := by decide +kernel
theorem dX4_digest_49 : decode cX4_digest 49 = .ok (.i2l, 1) := by decide +kernel
theorem dX4_digest_50 : decode cX4_digest 50 = .ok (.invokestatic 153, 3) := by decide +kernel
theorem dX4_digest_53 : decode cX4_digest 53 = .ok (.lstore_n 1, 1) := by decide +kernel
theorem dX4_digest_54 : decode cX4_digest 54 = .ok (.iinc 3 1, 3) := by decide +kernel
theorem dX4_digest_57 : decode cX4_digest 57 = .ok (.goto (-23), 3) := by decide +kernel
theorem dX4_digest_60 : decode cX4_digest 60 = .ok (.aload_n 0, 1) := by decide +kernel
theorem dX4_digest_61 : decode cX4_digest 61 = .ok (.lload_n 1, 1) := by decide +kernel
theorem dX4_digest_62 : decode cX4_digest 62 = .ok (.invokevirtual 157, 3) := by decide +kernel
theorem dX4_digest_65 : decode cX4_digest 65 = .ok (.lstore_n 1, 1) := by decide +kernel
theorem dX4_digest_66 : decode cX4_digest 66 = .ok (.aload_n 0, 1) := by decide +kernel
theorem dX4_digest_67 : decode cX4_digest 67 = .ok (.lload_n 1, 1) := by decide +kernel
theorem dX4_digest_68 : decode cX4_digest 68 = .ok (.invokevirtual 161, 3) := by decide +kernel
theorem dX4_digest_71 : decode cX4_digest 71 = .ok (.lstore_n 1, 1) := by decide +kernel
theorem dX4_digest_72 : decode cX4_digest 72 = .ok (.aload_n 0, 1) := by decide +kernel
theorem dX4_digest_73 : decode cX4_digest 73 = .ok (.lload_n 1, 1) := by decide +kernel
theorem dX4_digest_74 : decode cX4_digest 74 = .ok (.invokevirtual 164, 3) := by decide +kernel
theorem dX4_digest_77 : decode cX4_digest 77 = .ok (.lreturn, 1) := by decide +kernel
theorem dX4_mixHouses_0 : decode cX4_mixHouses 0 = .ok (.lload_n 1, 1) := by decide +kernel
theorem dX4_mixHouses_1 : decode cX4_mixHouses 1 = .ok (.lstore_n 3, 1) := by decide +kernel
theorem dX4_mixHouses_2 : decode cX4_mixHouses 2 = .ok (.iconst 0, 1) := by decide +kernel
theorem dX4_mixHouses_3 : decode cX4_mixHouses 3 = .ok (.istore 5, 2) := by decide +kernel
theorem dX4_mixHouses_5 : decode cX4_mixHouses 5 = .ok (.iload 5, 2) := by decide +kernel
theorem dX4_mixHouses_7 : decode cX4_mixHouses 7 = .ok (.aload_n 0, 1) := by decide +kernel
theorem dX4_mixHouses_8 : decode cX4_mixHouses 8 = .ok (.getfield 21, 3) := by decide +kernel
theorem dX4_mixHouses_11 : decode cX4_mixHouses 11 = .ok (.getfield 47, 3) := by decide +kernel
theorem dX4_mixHouses_14 : decode cX4_mixHouses 14 = .ok (.if_icmp .ge 46, 3) := by decide +kernel
theorem dX4_mixHouses_17 : decode cX4_mixHouses 17 = .ok (.iconst 0, 1) := by decide +kernel
theorem dX4_mixHouses_18 : decode cX4_mixHouses 18 = .ok (.istore 6, 2) := by decide +kernel
theorem dX4_mixHouses_20 : decode cX4_mixHouses 20 = .ok (.iload 6, 2) := by decide +kernel
theorem dX4_mixHouses_22 : decode cX4_mixHouses 22 = .ok (.bipush 10, 2) := by decide +kernel
theorem dX4_mixHouses_24 : decode cX4_mixHouses 24 = .ok (.if_icmp .ge 30, 3) := by decide +kernel
theorem dX4_mixHouses_27 : decode cX4_mixHouses 27 = .ok (.lload_n 3, 1) := by decide +kernel
theorem dX4_mixHouses_28 : decode cX4_mixHouses 28 = .ok (.aload_n 0, 1) := by decide +kernel
theorem dX4_mixHouses_29 : decode cX4_mixHouses 29 = .ok (.getfield 21, 3) := by decide +kernel
theorem dX4_mixHouses_32 : decode cX4_mixHouses 32 = .ok (.getfield 70, 3) := by decide +kernel
theorem dX4_mixHouses_35 : decode cX4_mixHouses 35 = .ok (.iload 5, 2) := by decide +kernel
theorem dX4_mixHouses_37 : decode cX4_mixHouses 37 = .ok (.aaload, 1) := by decide +kernel
theorem dX4_mixHouses_38 : decode cX4_mixHouses 38 = .ok (.iload 6, 2) := by decide +kernel
theorem dX4_mixHouses_40 : decode cX4_mixHouses 40 = .ok (.invokevirtual 115, 3) := by decide +kernel
theorem dX4_mixHouses_43 : decode cX4_mixHouses 43 = .ok (.i2l, 1) := by decide +kernel
theorem dX4_mixHouses_44 : decode cX4_mixHouses 44 = .ok (.invokestatic 153, 3) := by decide +kernel
theorem dX4_mixHouses_47 : decode cX4_mixHouses 47 = .ok (.lstore_n 3, 1) := by decide +kernel
theorem dX4_mixHouses_48 : decode cX4_mixHouses 48 = .ok (.iinc 6 1, 3) := by decide +kernel
theorem dX4_mixHouses_51 : decode cX4_mixHouses 51 = .ok (.goto (-31), 3) := by decide +kernel
theorem dX4_mixHouses_54 : decode cX4_mixHouses 54 = .ok (.iinc 5 1, 3) := by decide +kernel
theorem dX4_mixHouses_57 : decode cX4_mixHouses 57 = .ok (.goto (-52), 3) := by decide +kernel
theorem dX4_mixHouses_60 : decode cX4_mixHouses 60 = .ok (.lload_n 3, 1) := by decide +kernel
theorem dX4_mixHouses_61 : decode cX4_mixHouses 61 = .ok (.lreturn, 1) := by decide +kernel
theorem dX4_mixPipes_0 : decode cX4_mixPipes 0 = .ok (.lload_n 1, 1) := by decide +kernel
theorem dX4_mixPipes_1 : decode cX4_mixPipes 1 = .ok (.lstore_n 3, 1) := by decide +kernel
theorem dX4_mixPipes_2 : decode cX4_mixPipes 2 = .ok (.iconst 0, 1) := by decide +kernel
theorem dX4_mixPipes_3 : decode cX4_mixPipes 3 = .ok (.istore 5, 2) := by decide +kernel
theorem dX4_mixPipes_5 : decode cX4_mixPipes 5 = .ok (.iload 5, 2) := by decide +kernel
theorem dX4_mixPipes_7 : decode cX4_mixPipes 7 = .ok (.aload_n 0, 1) := by decide +kernel
theorem dX4_mixPipes_8 : decode cX4_mixPipes 8 = .ok (.getfield 21, 3) := by decide +kernel
theorem dX4_mixPipes_11 : decode cX4_mixPipes 11 = .ok (.getfield 82, 3) := by decide +kernel
theorem dX4_mixPipes_14 : decode cX4_mixPipes 14 = .ok (.if_icmp .ge 45, 3) := by decide +kernel
theorem dX4_mixPipes_17 : decode cX4_mixPipes 17 = .ok (.iconst 0, 1) := by decide +kernel
theorem dX4_mixPipes_18 : decode cX4_mixPipes 18 = .ok (.istore 6, 2) := by decide +kernel
theorem dX4_mixPipes_20 : decode cX4_mixPipes 20 = .ok (.iload 6, 2) := by decide +kernel
theorem dX4_mixPipes_22 : decode cX4_mixPipes 22 = .ok (.iconst 5, 1) := by decide +kernel
theorem dX4_mixPipes_23 : decode cX4_mixPipes 23 = .ok (.if_icmp .ge 30, 3) := by decide +kernel
theorem dX4_mixPipes_26 : decode cX4_mixPipes 26 = .ok (.lload_n 3, 1) := by decide +kernel
theorem dX4_mixPipes_27 : decode cX4_mixPipes 27 = .ok (.aload_n 0, 1) := by decide +kernel
theorem dX4_mixPipes_28 : decode cX4_mixPipes 28 = .ok (.getfield 21, 3) := by decide +kernel
theorem dX4_mixPipes_31 : decode cX4_mixPipes 31 = .ok (.getfield 92, 3) := by decide +kernel
theorem dX4_mixPipes_34 : decode cX4_mixPipes 34 = .ok (.iload 5, 2) := by decide +kernel
theorem dX4_mixPipes_36 : decode cX4_mixPipes 36 = .ok (.aaload, 1) := by decide +kernel
theorem dX4_mixPipes_37 : decode cX4_mixPipes 37 = .ok (.iload 6, 2) := by decide +kernel
theorem dX4_mixPipes_39 : decode cX4_mixPipes 39 = .ok (.invokevirtual 118, 3) := by decide +kernel
theorem dX4_mixPipes_42 : decode cX4_mixPipes 42 = .ok (.i2l, 1) := by decide +kernel
theorem dX4_mixPipes_43 : decode cX4_mixPipes 43 = .ok (.invokestatic 153, 3) := by decide +kernel
theorem dX4_mixPipes_46 : decode cX4_mixPipes 46 = .ok (.lstore_n 3, 1) := by decide +kernel
theorem dX4_mixPipes_47 : decode cX4_mixPipes 47 = .ok (.iinc 6 1, 3) := by decide +kernel
theorem dX4_mixPipes_50 : decode cX4_mixPipes 50 = .ok (.goto (-30), 3) := by decide +kernel
theorem dX4_mixPipes_53 : decode cX4_mixPipes 53 = .ok (.iinc 5 1, 3) := by decide +kernel
theorem dX4_mixPipes_56 : decode cX4_mixPipes 56 = .ok (.goto (-51), 3) := by decide +kernel
theorem dX4_mixPipes_59 : decode cX4_mixPipes 59 = .ok (.lload_n 3, 1) := by decide +kernel
theorem dX4_mixPipes_60 : decode cX4_mixPipes 60 = .ok (.lreturn, 1) := by decide +kernel
theorem dX4_mixDebts_0 : decode cX4_mixDebts 0 = .ok (.lload_n 1, 1) := by decide +kernel
theorem dX4_mixDebts_1 : decode cX4_mixDebts 1 = .ok (.lstore_n 3, 1) := by decide +kernel
theorem dX4_mixDebts_2 : decode cX4_mixDebts 2 = .ok (.iconst 0, 1) := by decide +kernel
theorem dX4_mixDebts_3 : decode cX4_mixDebts 3 = .ok (.istore 5, 2) := by decide +kernel
theorem dX4_mixDebts_5 : decode cX4_mixDebts 5 = .ok (.iload 5, 2) := by decide +kernel
theorem dX4_mixDebts_7 : decode cX4_mixDebts 7 = .ok (.aload_n 0, 1) := by decide +kernel
theorem dX4_mixDebts_8 : decode cX4_mixDebts 8 = .ok (.getfield 21, 3) := by decide +kernel
theorem dX4_mixDebts_11 : decode cX4_mixDebts 11 = .ok (.getfield 47, 3) := by decide +kernel
theorem dX4_mixDebts_14 : decode cX4_mixDebts 14 = .ok (.if_icmp .ge 50, 3) := by decide +kernel
theorem dX4_mixDebts_17 : decode cX4_mixDebts 17 = .ok (.iload 5, 2) := by decide +kernel
theorem dX4_mixDebts_19 : decode cX4_mixDebts 19 = .ok (.iconst 1, 1) := by decide +kernel
theorem dX4_mixDebts_20 : decode cX4_mixDebts 20 = .ok (.iadd, 1) := by decide +kernel
theorem dX4_mixDebts_21 : decode cX4_mixDebts 21 = .ok (.istore 6, 2) := by decide +kernel
theorem dX4_mixDebts_23 : decode cX4_mixDebts 23 = .ok (.iload 6, 2) := by decide +kernel
theorem dX4_mixDebts_25 : decode cX4_mixDebts 25 = .ok (.aload_n 0, 1) := by decide +kernel
theorem dX4_mixDebts_26 : decode cX4_mixDebts 26 = .ok (.getfield 21, 3) := by decide +kernel
theorem dX4_mixDebts_29 : decode cX4_mixDebts 29 = .ok (.getfield 47, 3) := by decide +kernel
theorem dX4_mixDebts_32 : decode cX4_mixDebts 32 = .ok (.if_icmp .ge 26, 3) := by decide +kernel
theorem dX4_mixDebts_35 : decode cX4_mixDebts 35 = .ok (.lload_n 3, 1) := by decide +kernel
theorem dX4_mixDebts_36 : decode cX4_mixDebts 36 = .ok (.aload_n 0, 1) := by decide +kernel
theorem dX4_mixDebts_37 : decode cX4_mixDebts 37 = .ok (.getfield 21, 3) := by decide +kernel
theorem dX4_mixDebts_40 : decode cX4_mixDebts 40 = .ok (.iload 5, 2) := by decide +kernel
theorem dX4_mixDebts_42 : decode cX4_mixDebts 42 = .ok (.iload 6, 2) := by decide +kernel
theorem dX4_mixDebts_44 : decode cX4_mixDebts 44 = .ok (.invokevirtual 119, 3) := by decide +kernel
theorem dX4_mixDebts_47 : decode cX4_mixDebts 47 = .ok (.i2l, 1) := by decide +kernel
theorem dX4_mixDebts_48 : decode cX4_mixDebts 48 = .ok (.invokestatic 153, 3) := by decide +kernel
theorem dX4_mixDebts_51 : decode cX4_mixDebts 51 = .ok (.lstore_n 3, 1) := by decide +kernel
theorem dX4_mixDebts_52 : decode cX4_mixDebts 52 = .ok (.iinc 6 1, 3) := by decide +kernel
theorem dX4_mixDebts_55 : decode cX4_mixDebts 55 = .ok (.goto (-32), 3) := by decide +kernel
theorem dX4_mixDebts_58 : decode cX4_mixDebts 58 = .ok (.iinc 5 1, 3) := by decide +kernel
theorem dX4_mixDebts_61 : decode cX4_mixDebts 61 = .ok (.goto (-56), 3) := by decide +kernel
theorem dX4_mixDebts_64 : decode cX4_mixDebts 64 = .ok (.lload_n 3, 1) := by decide +kernel
theorem dX4_mixDebts_65 : decode cX4_mixDebts 65 = .ok (.lreturn, 1) := by decide +kernel
theorem dX4_mix_0 : decode cX4_mix 0 = .ok (.lload_n 0, 1) := by decide +kernel
theorem dX4_mix_1 : decode cX4_mix 1 = .ok (.ldc2_w 167, 3) := by decide +kernel
theorem dX4_mix_4 : decode cX4_mix 4 = .ok (.lmul, 1) := by decide +kernel
theorem dX4_mix_5 : decode cX4_mix 5 = .ok (.lload_n 2, 1) := by decide +kernel
theorem dX4_mix_6 : decode cX4_mix 6 = .ok (.ladd, 1) := by decide +kernel
theorem dX4_mix_7 : decode cX4_mix 7 = .ok (.lreturn, 1) := by decide +kernel
theorem dX4_isWithin_0 : decode cX4_isWithin 0 = .ok (.iload_n 0, 1) := by decide +kernel
theorem dX4_isWithin_1 : decode cX4_isWithin 1 = .ok (.iload_n 1, 1) := by decide +kernel
theorem dX4_isWithin_2 : decode cX4_isWithin 2 = .ok (.if_icmp .lt 12, 3) := by decide +kernel
theorem dX4_isWithin_5 : decode cX4_isWithin 5 = .ok (.iload_n 0, 1) := by decide +kernel
theorem dX4_isWithin_6 : decode cX4_isWithin 6 = .ok (.iload_n 2, 1) := by decide +kernel
theorem dX4_isWithin_7 : decode cX4_isWithin 7 = .ok (.if_icmp .gt 7, 3) := by decide +kernel
theorem dX4_isWithin_10 : decode cX4_isWithin 10 = .ok (.iconst 1, 1) := by decide +kernel
theorem dX4_isWithin_11 : decode cX4_isWithin 11 = .ok (.goto 4, 3) := by decide +kernel
theorem dX4_isWithin_14 : decode cX4_isWithin 14 = .ok (.iconst 0, 1) := by decide +kernel
theorem dX4_isWithin_15 : decode cX4_isWithin 15 = .ok (.ireturn, 1) := by decide +kernel
theorem dX4_needHouse_0 : decode cX4_needHouse 0 = .ok (.aload_n 0, 1) := by decide +kernel
theorem dX4_needHouse_1 : decode cX4_needHouse 1 = .ok (.getfield 21, 3) := by decide +kernel
theorem dX4_needHouse_4 : decode cX4_needHouse 4 = .ok (.iload_n 1, 1) := by decide +kernel
theorem dX4_needHouse_5 : decode cX4_needHouse 5 = .ok (.invokevirtual 62, 3) := by decide +kernel
theorem dX4_needHouse_8 : decode cX4_needHouse 8 = .ok (.ifCond .ne 13, 3) := by decide +kernel
theorem dX4_needHouse_11 : decode cX4_needHouse 11 = .ok (.new 169, 3) := by decide +kernel
theorem dX4_needHouse_14 : decode cX4_needHouse 14 = .ok (.dup, 1) := by decide +kernel
theorem dX4_needHouse_15 : decode cX4_needHouse 15 = .ok (.ldc 171, 2) := by decide +kernel
theorem dX4_needHouse_17 : decode cX4_needHouse 17 = .ok (.invokespecial 173, 3) := by decide +kernel
theorem dX4_needHouse_20 : decode cX4_needHouse 20 = .ok (.athrow, 1) := by decide +kernel
theorem dX4_needHouse_21 : decode cX4_needHouse 21 = .ok (.return_, 1) := by decide +kernel
theorem dX4_needPipe_0 : decode cX4_needPipe 0 = .ok (.aload_n 0, 1) := by decide +kernel
theorem dX4_needPipe_1 : decode cX4_needPipe 1 = .ok (.getfield 21, 3) := by decide +kernel
theorem dX4_needPipe_4 : decode cX4_needPipe 4 = .ok (.iload_n 1, 1) := by decide +kernel
theorem dX4_needPipe_5 : decode cX4_needPipe 5 = .ok (.invokevirtual 176, 3) := by decide +kernel
theorem dX4_needPipe_8 : decode cX4_needPipe 8 = .ok (.ifCond .ne 13, 3) := by decide +kernel
theorem dX4_needPipe_11 : decode cX4_needPipe 11 = .ok (.new 169, 3) := by decide +kernel
theorem dX4_needPipe_14 : decode cX4_needPipe 14 = .ok (.dup, 1) := by decide +kernel
theorem dX4_needPipe_15 : decode cX4_needPipe 15 = .ok (.ldc 179, 2) := by decide +kernel
theorem dX4_needPipe_17 : decode cX4_needPipe 17 = .ok (.invokespecial 173, 3) := by decide +kernel
theorem dX4_needPipe_20 : decode cX4_needPipe 20 = .ok (.athrow, 1) := by decide +kernel
theorem dX4_needPipe_21 : decode cX4_needPipe 21 = .ok (.return_, 1) := by decide +kernel
theorem dX4_needIndex_0 : decode cX4_needIndex 0 = .ok (.iload_n 0, 1) := by decide +kernel
theorem dX4_needIndex_1 : decode cX4_needIndex 1 = .ok (.ifCond .ne 13, 3) := by decide +kernel
theorem dX4_needIndex_4 : decode cX4_needIndex 4 = .ok (.new 169, 3) := by decide +kernel
theorem dX4_needIndex_7 : decode cX4_needIndex 7 = .ok (.dup, 1) := by decide +kernel
theorem dX4_needIndex_8 : decode cX4_needIndex 8 = .ok (.ldc 181, 2) := by decide +kernel
theorem dX4_needIndex_10 : decode cX4_needIndex 10 = .ok (.invokespecial 173, 3) := by decide +kernel
theorem dX4_needIndex_13 : decode cX4_needIndex 13 = .ok (.athrow, 1) := by decide +kernel
theorem dX4_needIndex_14 : decode cX4_needIndex 14 = .ok (.return_, 1) := by decide +kernel
theorem dX4_needArgument_0 : decode cX4_needArgument 0 = .ok (.iload_n 0, 1) := by decide +kernel
theorem dX4_needArgument_1 : decode cX4_needArgument 1 = .ok (.ifCond .ne 13, 3) := by decide +kernel
theorem dX4_needArgument_4 : decode cX4_needArgument 4 = .ok (.new 183, 3) := by decide +kernel
theorem dX4_needArgument_7 : decode cX4_needArgument 7 = .ok (.dup, 1) := by decide +kernel
theorem dX4_needArgument_8 : decode cX4_needArgument 8 = .ok (.ldc 185, 2) := by decide +kernel
theorem dX4_needArgument_10 : decode cX4_needArgument 10 = .ok (.invokespecial 187, 3) := by decide +kernel
theorem dX4_needArgument_13 : decode cX4_needArgument 13 = .ok (.athrow, 1) := by decide +kernel
theorem dX4_needArgument_14 : decode cX4_needArgument 14 = .ok (.return_, 1) := by decide +kernel
theorem dX4_needState_0 : decode cX4_needState 0 = .ok (.iload_n 0, 1) := by decide +kernel
theorem dX4_needState_1 : decode cX4_needState 1 = .ok (.ifCond .ne 13, 3) := by decide +kernel
theorem dX4_needState_4 : decode cX4_needState 4 = .ok (.new 188, 3) := by decide +kernel
theorem dX4_needState_7 : decode cX4_needState 7 = .ok (.dup, 1) := by decide +kernel
theorem dX4_needState_8 : decode cX4_needState 8 = .ok (.ldc 190, 2) := by decide +kernel
theorem dX4_needState_10 : decode cX4_needState 10 = .ok (.invokespecial 192, 3) := by decide +kernel
theorem dX4_needState_13 : decode cX4_needState 13 = .ok (.athrow, 1) := by decide +kernel
theorem dX4_needState_14 : decode cX4_needState 14 = .ok (.return_, 1) := by decide +kernel
end
section
theorem dX5_init_0 : decode cX5_init 0 = .ok (.aload_n 0, 1) := by decide +kernel
theorem dX5_init_1 : decode cX5_init 1 = .ok (.invokespecial 1, 3) := by decide +kernel
theorem dX5_init_4 : decode cX5_init 4 = .ok (.aload_n 0, 1) := by decide +kernel
theorem dX5_init_5 : decode cX5_init 5 = .ok (.bipush 28, 2) := by decide +kernel
theorem dX5_init_7 : decode cX5_init 7 = .ok (.newarray .int, 2) := by decide +kernel
theorem dX5_init_9 : decode cX5_init 9 = .ok (.putfield 9, 3) := by decide +kernel
theorem dX5_init_12 : decode cX5_init 12 = .ok (.aload_n 0, 1) := by decide +kernel
theorem dX5_init_13 : decode cX5_init 13 = .ok (.bipush 28, 2) := by decide +kernel
theorem dX5_init_15 : decode cX5_init 15 = .ok (.newarray .int, 2) := by decide +kernel
theorem dX5_init_17 : decode cX5_init 17 = .ok (.putfield 13, 3) := by decide +kernel
theorem dX5_init_20 : decode cX5_init 20 = .ok (.aload_n 0, 1) := by decide +kernel
theorem dX5_init_21 : decode cX5_init 21 = .ok (.bipush 100, 2) := by decide +kernel
theorem dX5_init_23 : decode cX5_init 23 = .ok (.newarray .int, 2) := by decide +kernel
theorem dX5_init_25 : decode cX5_init 25 = .ok (.putfield 16, 3) := by decide +kernel
theorem dX5_init_28 : decode cX5_init 28 = .ok (.aload_n 0, 1) := by decide +kernel
theorem dX5_init_29 : decode cX5_init 29 = .ok (.bipush 60, 2) := by decide +kernel
theorem dX5_init_31 : decode cX5_init 31 = .ok (.newarray .int, 2) := by decide +kernel
theorem dX5_init_33 : decode cX5_init 33 = .ok (.putfield 19, 3) := by decide +kernel
theorem dX5_init_36 : decode cX5_init 36 = .ok (.aload_n 0, 1) := by decide +kernel
theorem dX5_init_37 : decode cX5_init 37 = .ok (.bipush 100, 2) := by decide +kernel
theorem dX5_init_39 : decode cX5_init 39 = .ok (.newarray .int, 2) := by decide +kernel
theorem dX5_init_41 : decode cX5_init 41 = .ok (.putfield 22, 3) := by decide +kernel
theorem dX5_init_44 : decode cX5_init 44 = .ok (.aload_n 0, 1) := by decide +kernel
theorem dX5_init_45 : decode cX5_init 45 = .ok (.iconst 5, 1) := by decide +kernel
theorem dX5_init_46 : decode cX5_init 46 = .ok (.newarray .int, 2) := by decide +kernel
theorem dX5_init_48 : decode cX5_init 48 = .ok (.putfield 25, 3) := by decide +kernel
theorem dX5_init_51 : decode cX5_init 51 = .ok (.return_, 1) := by decide +kernel
theorem dX5_thrown_0 : decode cX5_thrown 0 = .ok (.aload_n 0, 1) := by decide +kernel
theorem dX5_thrown_1 : decode cX5_thrown 1 = .ok (.getfield 28, 3) := by decide +kernel
theorem dX5_thrown_4 : decode cX5_thrown 4 = .ok (.ireturn, 1) := by decide +kernel
theorem dX5_fail_0 : decode cX5_fail 0 = .ok (.aload_n 0, 1) := by decide +kernel
theorem dX5_fail_1 : decode cX5_fail 1 = .ok (.iload_n 1, 1) := by decide +kernel
theorem dX5_fail_2 : decode cX5_fail 2 = .ok (.putfield 28, 3) := by decide +kernel
theorem dX5_fail_5 : decode cX5_fail 5 = .ok (.iconst 0, 1) := by decide +kernel
theorem dX5_fail_6 : decode cX5_fail 6 = .ok (.ireturn, 1) := by decide +kernel
theorem dX5_isIn_0 : decode cX5_isIn 0 = .ok (.iload_n 0, 1) := by decide +kernel
theorem dX5_isIn_1 : decode cX5_isIn 1 = .ok (.iload_n 1, 1) := by decide +kernel
theorem dX5_isIn_2 : decode cX5_isIn 2 = .ok (.if_icmp .lt 12, 3) := by decide +kernel
theorem dX5_isIn_5 : decode cX5_isIn 5 = .ok (.iload_n 0, 1) := by decide +kernel
theorem dX5_isIn_6 : decode cX5_isIn 6 = .ok (.iload_n 2, 1) := by decide +kernel
theorem dX5_isIn_7 : decode cX5_isIn 7 = .ok (.if_icmp .gt 7, 3) := by decide +kernel
theorem dX5_isIn_10 : decode cX5_isIn 10 = .ok (.iconst 1, 1) := by decide +kernel
theorem dX5_isIn_11 : decode cX5_isIn 11 = .ok (.goto 4, 3) := by decide +kernel
theorem dX5_isIn_14 : decode cX5_isIn 14 = .ok (.iconst 0, 1) := by decide +kernel
theorem dX5_isIn_15 : decode cX5_isIn 15 = .ok (.ireturn, 1) := by decide +kernel
theorem dX5_isHouse_0 : decode cX5_isHouse 0 = .ok (.iload_n 1, 1) := by decide +kernel
theorem dX5_isHouse_1 : decode cX5_isHouse 1 = .ok (.iconst 0, 1) := by decide +kernel
theorem dX5_isHouse_2 : decode cX5_isHouse 2 = .ok (.aload_n 0, 1) := by decide +kernel
theorem dX5_isHouse_3 : decode cX5_isHouse 3 = .ok (.getfield 32, 3) := by decide +kernel
theorem dX5_isHouse_6 : decode cX5_isHouse 6 = .ok (.iconst 1, 1) := by decide +kernel
theorem dX5_isHouse_7 : decode cX5_isHouse 7 = .ok (.isub, 1) := by decide +kernel
theorem dX5_isHouse_8 : decode cX5_isHouse 8 = .ok (.invokestatic 35, 3) := by decide +kernel
theorem dX5_isHouse_11 : decode cX5_isHouse 11 = .ok (.ireturn, 1) := by decide +kernel
theorem dX5_isPipe_0 : decode cX5_isPipe 0 = .ok (.iload_n 1, 1) := by decide +kernel
theorem dX5_isPipe_1 : decode cX5_isPipe 1 = .ok (.iconst 0, 1) := by decide +kernel
theorem dX5_isPipe_2 : decode cX5_isPipe 2 = .ok (.aload_n 0, 1) := by decide +kernel
theorem dX5_isPipe_3 : decode cX5_isPipe 3 = .ok (.getfield 39, 3) := by decide +kernel
theorem dX5_isPipe_6 : decode cX5_isPipe 6 = .ok (.iconst 1, 1) := by decide +kernel
theorem dX5_isPipe_7 : decode cX5_isPipe 7 = .ok (.isub, 1) := by decide +kernel
theorem dX5_isPipe_8 : decode cX5_isPipe 8 = .ok (.invokestatic 35, 3) := by decide +kernel
theorem dX5_isPipe_11 : decode cX5_isPipe 11 = .ok (.ireturn, 1) := by decide +kernel
theorem dX5_ho_0 : decode cX5_ho 0 = .ok (.aload_n 0, 1) := by decide +kernel
theorem dX5_ho_1 : decode cX5_ho 1 = .ok (.getfield 16, 3) := by decide +kernel
theorem dX5_ho_4 : decode cX5_ho 4 = .ok (.bipush 10, 2) := by decide +kernel
theorem dX5_ho_6 : decode cX5_ho 6 = .ok (.iload_n 1, 1) := by decide +kernel
theorem dX5_ho_7 : decode cX5_ho 7 = .ok (.imul, 1) := by decide +kernel
theorem dX5_ho_8 : decode cX5_ho 8 = .ok (.iload_n 2, 1) := by decide +kernel
theorem dX5_ho_9 : decode cX5_ho 9 = .ok (.iadd, 1) := by decide +kernel
theorem dX5_ho_10 : decode cX5_ho 10 = .ok (.iaload, 1) := by decide +kernel
theorem dX5_ho_11 : decode cX5_ho 11 = .ok (.ireturn, 1) := by decide +kernel
theorem dX5_set_0 : decode cX5_set 0 = .ok (.aload_n 0, 1) := by decide +kernel
theorem dX5_set_1 : decode cX5_set 1 = .ok (.getfield 16, 3) := by decide +kernel
theorem dX5_set_4 : decode cX5_set 4 = .ok (.bipush 10, 2) := by decide +kernel
theorem dX5_set_6 : decode cX5_set 6 = .ok (.iload_n 1, 1) := by decide +kernel
theorem dX5_set_7 : decode cX5_set 7 = .ok (.imul, 1) := by decide +kernel
theorem dX5_set_8 : decode cX5_set 8 = .ok (.iload_n 2, 1) := by decide +kernel
theorem dX5_set_9 : decode cX5_set 9 = .ok (.iadd, 1) := by decide +kernel
theorem dX5_set_10 : decode cX5_set 10 = .ok (.iload_n 3, 1) := by decide +kernel
theorem dX5_set_11 : decode cX5_set 11 = .ok (.iastore, 1) := by decide +kernel
theorem dX5_set_12 : decode cX5_set 12 = .ok (.return_, 1) := by decide +kernel
theorem dX5_pi_0 : decode cX5_pi 0 = .ok (.aload_n 0, 1) := by decide +kernel
theorem dX5_pi_1 : decode cX5_pi 1 = .ok (.getfield 19, 3) := by decide +kernel
theorem dX5_pi_4 : decode cX5_pi 4 = .ok (.iconst 5, 1) := by decide +kernel
theorem dX5_pi_5 : decode cX5_pi 5 = .ok (.iload_n 1, 1) := by decide +kernel
theorem dX5_pi_6 : decode cX5_pi 6 = .ok (.imul, 1) := by decide +kernel
theorem dX5_pi_7 : decode cX5_pi 7 = .ok (.iload_n 2, 1) := by decide +kernel
theorem dX5_pi_8 : decode cX5_pi 8 = .ok (.iadd, 1) := by decide +kernel
theorem dX5_pi_9 : decode cX5_pi 9 = .ok (.iaload, 1) := by decide +kernel
theorem dX5_pi_10 : decode cX5_pi 10 = .ok (.ireturn, 1) := by decide +kernel
theorem dX5_setWeather_0 : decode cX5_setWeather 0 = .ok (.aload_n 0, 1) := by decide +kernel
theorem dX5_setWeather_1 : decode cX5_setWeather 1 = .ok (.iconst 0, 1) := by decide +kernel
theorem dX5_setWeather_2 : decode cX5_setWeather 2 = .ok (.putfield 28, 3) := by decide +kernel
theorem dX5_setWeather_5 : decode cX5_setWeather 5 = .ok (.iload_n 1, 1) := by decide +kernel
theorem dX5_setWeather_6 : decode cX5_setWeather 6 = .ok (.iconst 0, 1) := by decide +kernel
theorem dX5_setWeather_7 : decode cX5_setWeather 7 = .ok (.bipush 27, 2) := by decide +kernel
theorem dX5_setWeather_9 : decode cX5_setWeather 9 = .ok (.invokestatic 35, 3) := by decide +kernel
theorem dX5_setWeather_12 : decode cX5_setWeather 12 = .ok (.ifCond .ne 9, 3) := by decide +kernel
theorem dX5_setWeather_15 : decode cX5_setWeather 15 = .ok (.aload_n 0, 1) := by decide +kernel
theorem dX5_setWeather_16 : decode cX5_setWeather 16 = .ok (.iconst 1, 1) := by decide +kernel
theorem dX5_setWeather_17 : decode cX5_setWeather 17 = .ok (.invokevirtual 42, 3) := by decide +kernel
theorem dX5_setWeather_20 : decode cX5_setWeather 20 = .ok (.ireturn, 1) := by decide +kernel
theorem dX5_setWeather_21 : decode cX5_setWeather 21 = .ok (.iload_n 2, 1) := by decide +kernel
theorem dX5_setWeather_22 : decode cX5_setWeather 22 = .ok (.iconst 0, 1) := by decide +kernel
theorem dX5_setWeather_23 : decode cX5_setWeather 23 = .ok (.bipush 20, 2) := by decide +kernel
theorem dX5_setWeather_25 : decode cX5_setWeather 25 = .ok (.invokestatic 35, 3) := by decide +kernel
theorem dX5_setWeather_28 : decode cX5_setWeather 28 = .ok (.ifCond .eq 12, 3) := by decide +kernel
theorem dX5_setWeather_31 : decode cX5_setWeather 31 = .ok (.iload_n 3, 1) := by decide +kernel
theorem dX5_setWeather_32 : decode cX5_setWeather 32 = .ok (.iconst 0, 1) := by decide +kernel
theorem dX5_setWeather_33 : decode cX5_setWeather 33 = .ok (.iconst 3, 1) := by decide +kernel
theorem dX5_setWeather_34 : decode cX5_setWeather 34 = .ok (.invokestatic 35, 3) := by decide +kernel
theorem dX5_setWeather_37 : decode cX5_setWeather 37 = .ok (.ifCond .ne 9, 3) := by decide +kernel
theorem dX5_setWeather_40 : decode cX5_setWeather 40 = .ok (.aload_n 0, 1) := by decide +kernel
theorem dX5_setWeather_41 : decode cX5_setWeather 41 = .ok (.iconst 2, 1) := by decide +kernel
theorem dX5_setWeather_42 : decode cX5_setWeather 42 = .ok (.invokevirtual 42, 3) := by decide +kernel
theorem dX5_setWeather_45 : decode cX5_setWeather 45 = .ok (.ireturn, 1) := by decide +kernel
theorem dX5_setWeather_46 : decode cX5_setWeather 46 = .ok (.bipush 10, 2) := by decide +kernel
theorem dX5_setWeather_48 : decode cX5_setWeather 48 = .ok (.aload_n 0, 1) := by decide +kernel
theorem dX5_setWeather_49 : decode cX5_setWeather 49 = .ok (.getfield 9, 3) := by decide +kernel
theorem dX5_setWeather_52 : decode cX5_setWeather 52 = .ok (.iload_n 1, 1) := by decide +kernel
theorem dX5_setWeather_53 : decode cX5_setWeather 53 = .ok (.iaload, 1) := by decide +kernel
theorem dX5_setWeather_54 : decode cX5_setWeather 54 = .ok (.imul, 1) := by decide +kernel
theorem dX5_setWeather_55 : decode cX5_setWeather 55 = .ok (.aload_n 0, 1) := by decide +kernel
theorem dX5_setWeather_56 : decode cX5_setWeather 56 = .ok (.getfield 13, 3) := by decide +kernel
theorem dX5_setWeather_59 : decode cX5_setWeather 59 = .ok (.iload_n 1, 1) := by decide +kernel
theorem dX5_setWeather_60 : decode cX5_setWeather 60 = .ok (.iaload, 1) := by decide +kernel
theorem dX5_setWeather_61 : decode cX5_setWeather 61 = .ok (.iadd, 1) := by decide +kernel
theorem dX5_setWeather_62 : decode cX5_setWeather 62 = .ok (.istore 4, 2) := by decide +kernel
theorem dX5_setWeather_64 : decode cX5_setWeather 64 = .ok (.aload_n 0, 1) := by decide +kernel
theorem dX5_setWeather_65 : decode cX5_setWeather 65 = .ok (.getfield 9, 3) := by decide +kernel
theorem dX5_setWeather_68 : decode cX5_setWeather 68 = .ok (.iload_n 1, 1) := by decide +kernel
theorem dX5_setWeather_69 : decode cX5_setWeather 69 = .ok (.iload_n 2, 1) := by decide +kernel
theorem dX5_setWeather_70 : decode cX5_setWeather 70 = .ok (.iastore, 1) := by decide +kernel
theorem dX5_setWeather_71 : decode cX5_setWeather 71 = .ok (.aload_n 0, 1) := by decide +kernel
theorem dX5_setWeather_72 : decode cX5_setWeather 72 = .ok (.getfield 13, 3) := by decide +kernel
theorem dX5_setWeather_75 : decode cX5_setWeather 75 = .ok (.iload_n 1, 1) := by decide +kernel
theorem dX5_setWeather_76 : decode cX5_setWeather 76 = .ok (.iload_n 3, 1) := by decide +kernel
theorem dX5_setWeather_77 : decode cX5_setWeather 77 = .ok (.iastore, 1) := by decide +kernel
theorem dX5_setWeather_78 : decode cX5_setWeather 78 = .ok (.iload 4, 2) := by decide +kernel
theorem dX5_setWeather_80 : decode cX5_setWeather 80 = .ok (.ireturn, 1) := by decide +kernel
theorem dX5_build_0 : decode cX5_build 0 = .ok (.aload_n 0, 1) := by decide +kernel
theorem dX5_build_1 : decode cX5_build 1 = .ok (.iconst 0, 1) := by decide +kernel
theorem dX5_build_2 : decode cX5_build 2 = .ok (.putfield 28, 3) := by decide +kernel
theorem dX5_build_5 : decode cX5_build 5 = .ok (.iload_n 1, 1) := by decide +kernel
theorem dX5_build_6 : decode cX5_build 6 = .ok (.iconst 1, 1) := by decide +kernel
theorem dX5_build_7 : decode cX5_build 7 = .ok (.bipush 30, 2) := by decide +kernel
theorem dX5_build_9 : decode cX5_build 9 = .ok (.invokestatic 35, 3) := by decide +kernel
theorem dX5_build_12 : decode cX5_build 12 = .ok (.ifCond .eq 36, 3) := by decide +kernel
theorem dX5_build_15 : decode cX5_build 15 = .ok (.iload_n 2, 1) := by decide +kernel
theorem dX5_build_16 : decode cX5_build 16 = .ok (.bipush 10, 2) := by decide +kernel
theorem dX5_build_18 : decode cX5_build 18 = .ok (.sipush 900, 3) := by decide +kernel
theorem dX5_build_21 : decode cX5_build 21 = .ok (.invokestatic 35, 3) := by decide +kernel
theorem dX5_build_24 : decode cX5_build 24 = .ok (.ifCond .eq 24, 3) := by decide +kernel
theorem dX5_build_27 : decode cX5_build 27 = .ok (.iload_n 3, 1) := by decide +kernel
theorem dX5_build_28 : decode cX5_build 28 = .ok (.iconst 0, 1) := by decide +kernel
theorem dX5_build_29 : decode cX5_build 29 = .ok (.bipush 9, 2) := by decide +kernel
theorem dX5_build_31 : decode cX5_build 31 = .ok (.invokestatic 35, 3) := by decide +kernel
theorem dX5_build_34 : decode cX5_build 34 = .ok (.ifCond .eq 14, 3) := by decide +kernel
theorem dX5_build_37 : decode cX5_build 37 = .ok (.iload 4, 2) := by decide +kernel
theorem dX5_build_39 : decode cX5_build 39 = .ok (.iconst 0, 1) := by decide +kernel
theorem dX5_build_40 : decode cX5_build 40 = .ok (.bipush 20, 2) := by decide +kernel
theorem dX5_build_42 : decode cX5_build 42 = .ok (.invokestatic 35, 3) := by decide +kernel
theorem dX5_build_45 : decode cX5_build 45 = .ok (.ifCond .ne 9, 3) := by decide +kernel
theorem dX5_build_48 : decode cX5_build 48 = .ok (.aload_n 0, 1) := by decide +kernel
theorem dX5_build_49 : decode cX5_build 49 = .ok (.iconst 1, 1) := by decide +kernel
theorem dX5_build_50 : decode cX5_build 50 = .ok (.invokevirtual 42, 3) := by decide +kernel
theorem dX5_build_53 : decode cX5_build 53 = .ok (.ireturn, 1) := by decide +kernel
theorem dX5_build_54 : decode cX5_build 54 = .ok (.aload_n 0, 1) := by decide +kernel
theorem dX5_build_55 : decode cX5_build 55 = .ok (.getfield 32, 3) := by decide +kernel
theorem dX5_build_58 : decode cX5_build 58 = .ok (.bipush 10, 2) := by decide +kernel
theorem dX5_build_60 : decode cX5_build 60 = .ok (.if_icmp .ne 9, 3) := by decide +kernel
theorem dX5_build_63 : decode cX5_build 63 = .ok (.aload_n 0, 1) := by decide +kernel
theorem dX5_build_64 : decode cX5_build 64 = .ok (.iconst 2, 1) := by decide +kernel
theorem dX5_build_65 : decode cX5_build 65 = .ok (.invokevirtual 42, 3) := by decide +kernel
theorem dX5_build_68 : decode cX5_build 68 = .ok (.ireturn, 1) := by decide +kernel
theorem dX5_build_69 : decode cX5_build 69 = .ok (.bipush 10, 2) := by decide +kernel
theorem dX5_build_71 : decode cX5_build 71 = .ok (.newarray .int, 2) := by decide +kernel
theorem dX5_build_73 : decode cX5_build 73 = .ok (.dup, 1) := by decide +kernel
theorem dX5_build_74 : decode cX5_build 74 = .ok (.iconst 0, 1) := by decide +kernel
theorem dX5_build_75 : decode cX5_build 75 = .ok (.iload_n 1, 1) := by decide +kernel
theorem dX5_build_76 : decode cX5_build 76 = .ok (.iastore, 1) := by decide +kernel
theorem dX5_build_77 : decode cX5_build 77 = .ok (.dup, 1) := by decide +kernel
theorem dX5_build_78 : decode cX5_build 78 = .ok (.iconst 1, 1) := by decide +kernel
theorem dX5_build_79 : decode cX5_build 79 = .ok (.iload_n 2, 1) := by decide +kernel
theorem dX5_build_80 : decode cX5_build 80 = .ok (.iastore, 1) := by decide +kernel
theorem dX5_build_81 : decode cX5_build 81 = .ok (.dup, 1) := by decide +kernel
theorem dX5_build_82 : decode cX5_build 82 = .ok (.iconst 2, 1) := by decide +kernel
theorem dX5_build_83 : decode cX5_build 83 = .ok (.iconst 0, 1) := by decide +kernel
theorem dX5_build_84 : decode cX5_build 84 = .ok (.iastore, 1) := by decide +kernel
theorem dX5_build_85 : decode cX5_build 85 = .ok (.dup, 1) := by decide +kernel
theorem dX5_build_86 : decode cX5_build 86 = .ok (.iconst 3, 1) := by decide +kernel
theorem dX5_build_87 : decode cX5_build 87 = .ok (.iload_n 3, 1) := by decide +kernel
theorem dX5_build_88 : decode cX5_build 88 = .ok (.iastore, 1) := by decide +kernel
theorem dX5_build_89 : decode cX5_build 89 = .ok (.dup, 1) := by decide +kernel
theorem dX5_build_90 : decode cX5_build 90 = .ok (.iconst 4, 1) := by decide +kernel
theorem dX5_build_91 : decode cX5_build 91 = .ok (.iload 4, 2) := by decide +kernel
theorem dX5_build_93 : decode cX5_build 93 = .ok (.iastore, 1) := by decide +kernel
theorem dX5_build_94 : decode cX5_build 94 = .ok (.dup, 1) := by decide +kernel
theorem dX5_build_95 : decode cX5_build 95 = .ok (.iconst 5, 1) := by decide +kernel
theorem dX5_build_96 : decode cX5_build 96 = .ok (.iconst 0, 1) := by decide +kernel
theorem dX5_build_97 : decode cX5_build 97 = .ok (.iastore, 1) := by decide +kernel
theorem dX5_build_98 : decode cX5_build 98 = .ok (.dup, 1) := by decide +kernel
theorem dX5_build_99 : decode cX5_build 99 = .ok (.bipush 6, 2) := by decide +kernel
theorem dX5_build_101 : decode cX5_build 101 = .ok (.iconst (-1), 1) := by decide +kernel
theorem dX5_build_102 : decode cX5_build 102 = .ok (.iastore, 1) := by decide +kernel
theorem dX5_build_103 : decode cX5_build 103 = .ok (.dup, 1) := by decide +kernel
theorem dX5_build_104 : decode cX5_build 104 = .ok (.bipush 7, 2) := by decide +kernel
theorem dX5_build_106 : decode cX5_build 106 = .ok (.iconst 0, 1) := by decide +kernel
theorem dX5_build_107 : decode cX5_build 107 = .ok (.iastore, 1) := by decide +kernel
theorem dX5_build_108 : decode cX5_build 108 = .ok (.dup, 1) := by decide +kernel
theorem dX5_build_109 : decode cX5_build 109 = .ok (.bipush 8, 2) := by decide +kernel
theorem dX5_build_111 : decode cX5_build 111 = .ok (.iconst 0, 1) := by decide +kernel
theorem dX5_build_112 : decode cX5_build 112 = .ok (.iastore, 1) := by decide +kernel
theorem dX5_build_113 : decode cX5_build 113 = .ok (.dup, 1) := by decide +kernel
theorem dX5_build_114 : decode cX5_build 114 = .ok (.bipush 9, 2) := by decide +kernel
theorem dX5_build_116 : decode cX5_build 116 = .ok (.iconst 0, 1) := by decide +kernel
theorem dX5_build_117 : decode cX5_build 117 = .ok (.iastore, 1) := by decide +kernel
theorem dX5_build_118 : decode cX5_build 118 = .ok (.astore 5, 2) := by decide +kernel
theorem dX5_build_120 : decode cX5_build 120 = .ok (.aload 5, 2) := by decide +kernel
theorem dX5_build_122 : decode cX5_build 122 = .ok (.iconst 0, 1) := by decide +kernel
theorem dX5_build_123 : decode cX5_build 123 = .ok (.aload_n 0, 1) := by decide +kernel
theorem dX5_build_124 : decode cX5_build 124 = .ok (.getfield 16, 3) := by decide +kernel
theorem dX5_build_127 : decode cX5_build 127 = .ok (.bipush 10, 2) := by decide +kernel
theorem dX5_build_129 : decode cX5_build 129 = .ok (.aload_n 0, 1) := by decide +kernel
theorem dX5_build_130 : decode cX5_build 130 = .ok (.getfield 32, 3) := by decide +kernel
theorem dX5_build_133 : decode cX5_build 133 = .ok (.imul, 1) := by decide +kernel
theorem dX5_build_134 : decode cX5_build 134 = .ok (.bipush 10, 2) := by decide +kernel
theorem dX5_build_136 : decode cX5_build 136 = .ok (.invokestatic 46, 3) := by decide +kernel
theorem dX5_build_139 : decode cX5_build 139 = .ok (.aload_n 0, 1) := by decide +kernel
theorem dX5_build_140 : decode cX5_build 140 = .ok (.dup, 1) := by decide +kernel
theorem dX5_build_141 : decode cX5_build 141 = .ok (.getfield 32, 3) := by decide +kernel
theorem dX5_build_144 : decode cX5_build 144 = .ok (.iconst 1, 1) := by decide +kernel
theorem dX5_build_145 : decode cX5_build 145 = .ok (.iadd, 1) := by decide +kernel
theorem dX5_build_146 : decode cX5_build 146 = .ok (.putfield 32, 3) := by decide +kernel
theorem dX5_build_149 : decode cX5_build 149 = .ok (.aload_n 0, 1) := by decide +kernel
theorem dX5_build_150 : decode cX5_build 150 = .ok (.getfield 32, 3) := by decide +kernel
theorem dX5_build_153 : decode cX5_build 153 = .ok (.iconst 1, 1) := by decide +kernel
theorem dX5_build_154 : decode cX5_build 154 = .ok (.isub, 1) := by decide +kernel
theorem dX5_build_155 : decode cX5_build 155 = .ok (.ireturn, 1) := by decide +kernel
theorem dX5_chain_0 : decode cX5_chain 0 = .ok (.aload_n 0, 1) := by decide +kernel
theorem dX5_chain_1 : decode cX5_chain 1 = .ok (.iconst 0, 1) := by decide +kernel
theorem dX5_chain_2 : decode cX5_chain 2 = .ok (.putfield 28, 3) := by decide +kernel
theorem dX5_chain_5 : decode cX5_chain 5 = .ok (.aload_n 0, 1) := by decide +kernel
theorem dX5_chain_6 : decode cX5_chain 6 = .ok (.iload_n 1, 1) := by decide +kernel
theorem dX5_chain_7 : decode cX5_chain 7 = .ok (.invokevirtual 52, 3) := by decide +kernel
theorem dX5_chain_10 : decode cX5_chain 10 = .ok (.ifCond .eq 16, 3) := by decide +kernel
theorem dX5_chain_13 : decode cX5_chain 13 = .ok (.iload_n 2, 1) := by decide +kernel
theorem dX5_chain_14 : decode cX5_chain 14 = .ok (.iconst (-1), 1) := by decide +kernel
theorem dX5_chain_15 : decode cX5_chain 15 = .ok (.if_icmp .eq 17, 3) := by decide +kernel
theorem dX5_chain_18 : decode cX5_chain 18 = .ok (.aload_n 0, 1) := by decide +kernel
theorem dX5_chain_19 : decode cX5_chain 19 = .ok (.iload_n 2, 1) := by decide +kernel
theorem dX5_chain_20 : decode cX5_chain 20 = .ok (.invokevirtual 52, 3) := by decide +kernel
theorem dX5_chain_23 : decode cX5_chain 23 = .ok (.ifCond .ne 9, 3) := by decide +kernel
theorem dX5_chain_26 : decode cX5_chain 26 = .ok (.aload_n 0, 1) := by decide +kernel
theorem dX5_chain_27 : decode cX5_chain 27 = .ok (.iconst 1, 1) := by decide +kernel
theorem dX5_chain_28 : decode cX5_chain 28 = .ok (.invokevirtual 42, 3) := by decide +kernel
theorem dX5_chain_31 : decode cX5_chain 31 = .ok (.ireturn, 1) := by decide +kernel
theorem dX5_chain_32 : decode cX5_chain 32 = .ok (.iload_n 1, 1) := by decide +kernel
theorem dX5_chain_33 : decode cX5_chain 33 = .ok (.iload_n 2, 1) := by decide +kernel
theorem dX5_chain_34 : decode cX5_chain 34 = .ok (.if_icmp .ne 9, 3) := by decide +kernel
theorem dX5_chain_37 : decode cX5_chain 37 = .ok (.aload_n 0, 1) := by decide +kernel
theorem dX5_chain_38 : decode cX5_chain 38 = .ok (.iconst 2, 1) := by decide +kernel
theorem dX5_chain_39 : decode cX5_chain 39 = .ok (.invokevirtual 42, 3) := by decide +kernel
theorem dX5_chain_42 : decode cX5_chain 42 = .ok (.ireturn, 1) := by decide +kernel
theorem dX5_chain_43 : decode cX5_chain 43 = .ok (.iconst 0, 1) := by decide +kernel
theorem dX5_chain_44 : decode cX5_chain 44 = .ok (.istore_n 3, 1) := by decide +kernel
theorem dX5_chain_45 : decode cX5_chain 45 = .ok (.iload_n 2, 1) := by decide +kernel
theorem dX5_chain_46 : decode cX5_chain 46 = .ok (.istore 4, 2) := by decide +kernel
theorem dX5_chain_48 : decode cX5_chain 48 = .ok (.iload 4, 2) := by decide +kernel
theorem dX5_chain_50 : decode cX5_chain 50 = .ok (.iconst (-1), 1) := by decide +kernel
theorem dX5_chain_51 : decode cX5_chain 51 = .ok (.if_icmp .eq 31, 3) := by decide +kernel
theorem dX5_chain_54 : decode cX5_chain 54 = .ok (.iload 4, 2) := by decide +kernel
theorem dX5_chain_56 : decode cX5_chain 56 = .ok (.iload_n 1, 1) := by decide +kernel
theorem dX5_chain_57 : decode cX5_chain 57 = .ok (.if_icmp .ne 9, 3) := by decide +kernel
theorem dX5_chain_60 : decode cX5_chain 60 = .ok (.aload_n 0, 1) := by decide +kernel
theorem dX5_chain_61 : decode cX5_chain 61 = .ok (.iconst 3, 1) := by decide +kernel
theorem dX5_chain_62 : decode cX5_chain 62 = .ok (.invokevirtual 42, 3) := by decide +kernel
theorem dX5_chain_65 : decode cX5_chain 65 = .ok (.ireturn, 1) := by decide +kernel
theorem dX5_chain_66 : decode cX5_chain 66 = .ok (.iinc 3 1, 3) := by decide +kernel
theorem dX5_chain_69 : decode cX5_chain 69 = .ok (.aload_n 0, 1) := by decide +kernel
theorem dX5_chain_70 : decode cX5_chain 70 = .ok (.iload 4, 2) := by decide +kernel
theorem dX5_chain_72 : decode cX5_chain 72 = .ok (.bipush 6, 2) := by decide +kernel
theorem dX5_chain_74 : decode cX5_chain 74 = .ok (.invokevirtual 56, 3) := by decide +kernel
theorem dX5_chain_77 : decode cX5_chain 77 = .ok (.istore 4, 2) := by decide +kernel
theorem dX5_chain_79 : decode cX5_chain 79 = .ok (.goto (-31), 3) := by decide +kernel
theorem dX5_chain_82 : decode cX5_chain 82 = .ok (.aload_n 0, 1) := by decide +kernel
theorem dX5_chain_83 : decode cX5_chain 83 = .ok (.iload_n 1, 1) := by decide +kernel
theorem dX5_chain_84 : decode cX5_chain 84 = .ok (.bipush 6, 2) := by decide +kernel
theorem dX5_chain_86 : decode cX5_chain 86 = .ok (.iload_n 2, 1) := by decide +kernel
theorem dX5_chain_87 : decode cX5_chain 87 = .ok (.invokevirtual 60, 3) := by decide +kernel
theorem dX5_chain_90 : decode cX5_chain 90 = .ok (.iload_n 3, 1) := by decide +kernel
theorem dX5_chain_91 : decode cX5_chain 91 = .ok (.ireturn, 1) := by decide +kernel
theorem dX5_lay_0 : decode cX5_lay 0 = .ok (.aload_n 0, 1) := by decide +kernel
theorem dX5_lay_1 : decode cX5_lay 1 = .ok (.iconst 0, 1) := by decide +kernel
theorem dX5_lay_2 : decode cX5_lay 2 = .ok (.putfield 28, 3) := by decide +kernel
theorem dX5_lay_5 : decode cX5_lay 5 = .ok (.aload_n 0, 1) := by decide +kernel
theorem dX5_lay_6 : decode cX5_lay 6 = .ok (.iload_n 1, 1) := by decide +kernel
theorem dX5_lay_7 : decode cX5_lay 7 = .ok (.invokevirtual 52, 3) := by decide +kernel
theorem dX5_lay_10 : decode cX5_lay 10 = .ok (.ifCond .eq 11, 3) := by decide +kernel
theorem dX5_lay_13 : decode cX5_lay 13 = .ok (.aload_n 0, 1) := by decide +kernel
theorem dX5_lay_14 : decode cX5_lay 14 = .ok (.iload_n 2, 1) := by decide +kernel
theorem dX5_lay_15 : decode cX5_lay 15 = .ok (.invokevirtual 52, 3) := by decide +kernel
theorem dX5_lay_18 : decode cX5_lay 18 = .ok (.ifCond .ne 9, 3) := by decide +kernel
theorem dX5_lay_21 : decode cX5_lay 21 = .ok (.aload_n 0, 1) := by decide +kernel
theorem dX5_lay_22 : decode cX5_lay 22 = .ok (.iconst 1, 1) := by decide +kernel
theorem dX5_lay_23 : decode cX5_lay 23 = .ok (.invokevirtual 42, 3) := by decide +kernel
theorem dX5_lay_26 : decode cX5_lay 26 = .ok (.ireturn, 1) := by decide +kernel
theorem dX5_lay_27 : decode cX5_lay 27 = .ok (.iload_n 1, 1) := by decide +kernel
theorem dX5_lay_28 : decode cX5_lay 28 = .ok (.iload_n 2, 1) := by decide +kernel
theorem dX5_lay_29 : decode cX5_lay 29 = .ok (.if_icmp .eq 13, 3) := by decide +kernel
theorem dX5_lay_32 : decode cX5_lay 32 = .ok (.iload_n 3, 1) := by decide +kernel
theorem dX5_lay_33 : decode cX5_lay 33 = .ok (.iconst 1, 1) := by decide +kernel
theorem dX5_lay_34 : decode cX5_lay 34 = .ok (.bipush 50, 2) := by decide +kernel
theorem dX5_lay_36 : decode cX5_lay 36 = .ok (.invokestatic 35, 3) := by decide +kernel
theorem dX5_lay_39 : decode cX5_lay 39 = .ok (.ifCond .ne 9, 3) := by decide +kernel
theorem dX5_lay_42 : decode cX5_lay 42 = .ok (.aload_n 0, 1) := by decide +kernel
theorem dX5_lay_43 : decode cX5_lay 43 = .ok (.iconst 2, 1) := by decide +kernel
theorem dX5_lay_44 : decode cX5_lay 44 = .ok (.invokevirtual 42, 3) := by decide +kernel
theorem dX5_lay_47 : decode cX5_lay 47 = .ok (.ireturn, 1) := by decide +kernel
theorem dX5_lay_48 : decode cX5_lay 48 = .ok (.aload_n 0, 1) := by decide +kernel
theorem dX5_lay_49 : decode cX5_lay 49 = .ok (.getfield 39, 3) := by decide +kernel
theorem dX5_lay_52 : decode cX5_lay 52 = .ok (.bipush 12, 2) := by decide +kernel
theorem dX5_lay_54 : decode cX5_lay 54 = .ok (.if_icmp .ne 9, 3) := by decide +kernel
theorem dX5_lay_57 : decode cX5_lay 57 = .ok (.aload_n 0, 1) := by decide +kernel
theorem dX5_lay_58 : decode cX5_lay 58 = .ok (.iconst 3, 1) := by decide +kernel
theorem dX5_lay_59 : decode cX5_lay 59 = .ok (.invokevirtual 42, 3) := by decide +kernel
theorem dX5_lay_62 : decode cX5_lay 62 = .ok (.ireturn, 1) := by decide +kernel
theorem dX5_lay_63 : decode cX5_lay 63 = .ok (.iconst 5, 1) := by decide +kernel
theorem dX5_lay_64 : decode cX5_lay 64 = .ok (.newarray .int, 2) := by decide +kernel
theorem dX5_lay_66 : decode cX5_lay 66 = .ok (.dup, 1) := by decide +kernel
theorem dX5_lay_67 : decode cX5_lay 67 = .ok (.iconst 0, 1) := by decide +kernel
theorem dX5_lay_68 : decode cX5_lay 68 = .ok (.iload_n 1, 1) := by decide +kernel
theorem dX5_lay_69 : decode cX5_lay 69 = .ok (.iastore, 1) := by decide +kernel
theorem dX5_lay_70 : decode cX5_lay 70 = .ok (.dup, 1) := by decide +kernel
theorem dX5_lay_71 : decode cX5_lay 71 = .ok (.iconst 1, 1) := by decide +kernel
theorem dX5_lay_72 : decode cX5_lay 72 = .ok (.iload_n 2, 1) := by decide +kernel
theorem dX5_lay_73 : decode cX5_lay 73 = .ok (.iastore, 1) := by decide +kernel
theorem dX5_lay_74 : decode cX5_lay 74 = .ok (.dup, 1) := by decide +kernel
theorem dX5_lay_75 : decode cX5_lay 75 = .ok (.iconst 2, 1) := by decide +kernel
theorem dX5_lay_76 : decode cX5_lay 76 = .ok (.iload_n 3, 1) := by decide +kernel
theorem dX5_lay_77 : decode cX5_lay 77 = .ok (.iastore, 1) := by decide +kernel
theorem dX5_lay_78 : decode cX5_lay 78 = .ok (.dup, 1) := by decide +kernel
theorem dX5_lay_79 : decode cX5_lay 79 = .ok (.iconst 3, 1) := by decide +kernel
theorem dX5_lay_80 : decode cX5_lay 80 = .ok (.iconst 1, 1) := by decide +kernel
theorem dX5_lay_81 : decode cX5_lay 81 = .ok (.iastore, 1) := by decide +kernel
theorem dX5_lay_82 : decode cX5_lay 82 = .ok (.dup, 1) := by decide +kernel
theorem dX5_lay_83 : decode cX5_lay 83 = .ok (.iconst 4, 1) := by decide +kernel
theorem dX5_lay_84 : decode cX5_lay 84 = .ok (.iconst 0, 1) := by decide +kernel
theorem dX5_lay_85 : decode cX5_lay 85 = .ok (.iastore, 1) := by decide +kernel
theorem dX5_lay_86 : decode cX5_lay 86 = .ok (.astore 4, 2) := by decide +kernel
theorem dX5_lay_88 : decode cX5_lay 88 = .ok (.aload 4, 2) := by decide +kernel
theorem dX5_lay_90 : decode cX5_lay 90 = .ok (.iconst 0, 1) := by decide +kernel
theorem dX5_lay_91 : decode cX5_lay 91 = .ok (.aload_n 0, 1) := by decide +kernel
theorem dX5_lay_92 : decode cX5_lay 92 = .ok (.getfield 19, 3) := by decide +kernel
theorem dX5_lay_95 : decode cX5_lay 95 = .ok (.iconst 5, 1) := by decide +kernel
theorem dX5_lay_96 : decode cX5_lay 96 = .ok (.aload_n 0, 1) := by decide +kernel
theorem dX5_lay_97 : decode cX5_lay 97 = .ok (.getfield 39, 3) := by decide +kernel
theorem dX5_lay_100 : decode cX5_lay 100 = .ok (.imul, 1) := by decide +kernel
theorem dX5_lay_101 : decode cX5_lay 101 = .ok (.iconst 5, 1) := by decide +kernel
theorem dX5_lay_102 : decode cX5_lay 102 = .ok (.invokestatic 46, 3) := by decide +kernel
theorem dX5_lay_105 : decode cX5_lay 105 = .ok (.aload_n 0, 1) := by decide +kernel
theorem dX5_lay_106 : decode cX5_lay 106 = .ok (.dup, 1) := by decide +kernel
theorem dX5_lay_107 : decode cX5_lay 107 = .ok (.getfield 39, 3) := by decide +kernel
theorem dX5_lay_110 : decode cX5_lay 110 = .ok (.iconst 1, 1) := by decide +kernel
theorem dX5_lay_111 : decode cX5_lay 111 = .ok (.iadd, 1) := by decide +kernel
theorem dX5_lay_112 : decode cX5_lay 112 = .ok (.putfield 39, 3) := by decide +kernel
theorem dX5_lay_115 : decode cX5_lay 115 = .ok (.aload_n 0, 1) := by decide +kernel
theorem dX5_lay_116 : decode cX5_lay 116 = .ok (.getfield 39, 3) := by decide +kernel
theorem dX5_lay_119 : decode cX5_lay 119 = .ok (.iconst 1, 1) := by decide +kernel
theorem dX5_lay_120 : decode cX5_lay 120 = .ok (.isub, 1) := by decide +kernel
theorem dX5_lay_121 : decode cX5_lay 121 = .ok (.ireturn, 1) := by decide +kernel
theorem dX5_turn_0 : decode cX5_turn 0 = .ok (.aload_n 0, 1) := by decide +kernel
theorem dX5_turn_1 : decode cX5_turn 1 = .ok (.aload_n 0, 1) := by decide +kernel
theorem dX5_turn_2 : decode cX5_turn 2 = .ok (.iload_n 1, 1) := by decide +kernel
theorem dX5_turn_3 : decode cX5_turn 3 = .ok (.invokevirtual 64, 3) := by decide +kernel
theorem dX5_turn_6 : decode cX5_turn 6 = .ok (.ifCond .eq 7, 3) := by decide +kernel
theorem dX5_turn_9 : decode cX5_turn 9 = .ok (.iconst 0, 1) := by decide +kernel
theorem dX5_turn_10 : decode cX5_turn 10 = .ok (.goto 4, 3) := by decide +kernel
theorem dX5_turn_13 : decode cX5_turn 13 = .ok (.iconst 1, 1) := by decide +kernel
theorem dX5_turn_14 : decode cX5_turn 14 = .ok (.putfield 28, 3) := by decide +kernel
theorem dX5_turn_17 : decode cX5_turn 17 = .ok (.aload_n 0, 1) := by decide +kernel
theorem dX5_turn_18 : decode cX5_turn 18 = .ok (.getfield 28, 3) := by decide +kernel
theorem dX5_turn_21 : decode cX5_turn 21 = .ok (.ifCond .eq 5, 3) := by decide +kernel
theorem dX5_turn_24 : decode cX5_turn 24 = .ok (.iconst 0, 1) := by decide +kernel
theorem dX5_turn_25 : decode cX5_turn 25 = .ok (.ireturn, 1) := by decide +kernel
theorem dX5_turn_26 : decode cX5_turn 26 = .ok (.aload_n 0, 1) := by decide +kernel
theorem dX5_turn_27 : decode cX5_turn 27 = .ok (.iload_n 1, 1) := by decide +kernel
theorem dX5_turn_28 : decode cX5_turn 28 = .ok (.iconst 3, 1) := by decide +kernel
theorem dX5_turn_29 : decode cX5_turn 29 = .ok (.invokevirtual 67, 3) := by decide +kernel
theorem dX5_turn_32 : decode cX5_turn 32 = .ok (.iconst 1, 1) := by decide +kernel
theorem dX5_turn_33 : decode cX5_turn 33 = .ok (.if_icmp .ne 7, 3) := by decide +kernel
theorem dX5_turn_36 : decode cX5_turn 36 = .ok (.iconst 1, 1) := by decide +kernel
theorem dX5_turn_37 : decode cX5_turn 37 = .ok (.goto 4, 3) := by decide +kernel
theorem dX5_turn_40 : decode cX5_turn 40 = .ok (.iconst 0, 1) := by decide +kernel
theorem dX5_turn_41 : decode cX5_turn 41 = .ok (.istore_n 3, 1) := by decide +kernel
theorem dX5_turn_42 : decode cX5_turn 42 = .ok (.aload_n 0, 1) := by decide +kernel
theorem dX5_turn_43 : decode cX5_turn 43 = .ok (.getfield 19, 3) := by decide +kernel
theorem dX5_turn_46 : decode cX5_turn 46 = .ok (.iconst 5, 1) := by decide +kernel
theorem dX5_turn_47 : decode cX5_turn 47 = .ok (.iload_n 1, 1) := by decide +kernel
theorem dX5_turn_48 : decode cX5_turn 48 = .ok (.imul, 1) := by decide +kernel
theorem dX5_turn_49 : decode cX5_turn 49 = .ok (.iconst 3, 1) := by decide +kernel
theorem dX5_turn_50 : decode cX5_turn 50 = .ok (.iadd, 1) := by decide +kernel
theorem dX5_turn_51 : decode cX5_turn 51 = .ok (.iload_n 2, 1) := by decide +kernel
theorem dX5_turn_52 : decode cX5_turn 52 = .ok (.ifCond .eq 7, 3) := by decide +kernel
theorem dX5_turn_55 : decode cX5_turn 55 = .ok (.iconst 1, 1) := by decide +kernel
theorem dX5_turn_56 : decode cX5_turn 56 = .ok (.goto 4, 3) := by decide +kernel
theorem dX5_turn_59 : decode cX5_turn 59 = .ok (.iconst 0, 1) := by decide +kernel
theorem dX5_turn_60 : decode cX5_turn 60 = .ok (.iastore, 1) := by decide +kernel
theorem dX5_turn_61 : decode cX5_turn 61 = .ok (.iload_n 3, 1) := by decide +kernel
theorem dX5_turn_62 : decode cX5_turn 62 = .ok (.ireturn, 1) := by decide +kernel
theorem dX5_clean_0 : decode cX5_clean 0 = .ok (.aload_n 0, 1) := by decide +kernel
theorem dX5_clean_1 : decode cX5_clean 1 = .ok (.iconst 0, 1) := by decide +kernel
theorem dX5_clean_2 : decode cX5_clean 2 = .ok (.putfield 28, 3) := by decide +kernel
theorem dX5_clean_5 : decode cX5_clean 5 = .ok (.aload_n 0, 1) := by decide +kernel
theorem dX5_clean_6 : decode cX5_clean 6 = .ok (.iload_n 1, 1) := by decide +kernel
theorem dX5_clean_7 : decode cX5_clean 7 = .ok (.invokevirtual 52, 3) := by decide +kernel
theorem dX5_clean_10 : decode cX5_clean 10 = .ok (.ifCond .ne 9, 3) := by decide +kernel
theorem dX5_clean_13 : decode cX5_clean 13 = .ok (.aload_n 0, 1) := by decide +kernel
theorem dX5_clean_14 : decode cX5_clean 14 = .ok (.iconst 1, 1) := by decide +kernel
theorem dX5_clean_15 : decode cX5_clean 15 = .ok (.invokevirtual 42, 3) := by decide +kernel
theorem dX5_clean_18 : decode cX5_clean 18 = .ok (.ireturn, 1) := by decide +kernel
theorem dX5_clean_19 : decode cX5_clean 19 = .ok (.aload_n 0, 1) := by decide +kernel
theorem dX5_clean_20 : decode cX5_clean 20 = .ok (.iload_n 1, 1) := by decide +kernel
theorem dX5_clean_21 : decode cX5_clean 21 = .ok (.iconst 5, 1) := by decide +kernel
theorem dX5_clean_22 : decode cX5_clean 22 = .ok (.invokevirtual 56, 3) := by decide +kernel
theorem dX5_clean_25 : decode cX5_clean 25 = .ok (.istore_n 2, 1) := by decide +kernel
theorem dX5_clean_26 : decode cX5_clean 26 = .ok (.aload_n 0, 1) := by decide +kernel
theorem dX5_clean_27 : decode cX5_clean 27 = .ok (.iload_n 1, 1) := by decide +kernel
theorem dX5_clean_28 : decode cX5_clean 28 = .ok (.iconst 5, 1) := by decide +kernel
theorem dX5_clean_29 : decode cX5_clean 29 = .ok (.iconst 0, 1) := by decide +kernel
theorem dX5_clean_30 : decode cX5_clean 30 = .ok (.invokevirtual 60, 3) := by decide +kernel
theorem dX5_clean_33 : decode cX5_clean 33 = .ok (.iload_n 2, 1) := by decide +kernel
theorem dX5_clean_34 : decode cX5_clean 34 = .ok (.ireturn, 1) := by decide +kernel
theorem dX5_pour_0 : decode cX5_pour 0 = .ok (.iload_n 2, 1) := by decide +kernel
theorem dX5_pour_1 : decode cX5_pour 1 = .ok (.istore_n 3, 1) := by decide +kernel
theorem dX5_pour_2 : decode cX5_pour 2 = .ok (.iload_n 1, 1) := by decide +kernel
theorem dX5_pour_3 : decode cX5_pour 3 = .ok (.istore 4, 2) := by decide +kernel
theorem dX5_pour_5 : decode cX5_pour 5 = .ok (.iload 4, 2) := by decide +kernel
theorem dX5_pour_7 : decode cX5_pour 7 = .ok (.iconst (-1), 1) := by decide +kernel
theorem dX5_pour_8 : decode cX5_pour 8 = .ok (.if_icmp .eq 59, 3) := by decide +kernel
theorem dX5_pour_11 : decode cX5_pour 11 = .ok (.iload_n 3, 1) := by decide +kernel
theorem dX5_pour_12 : decode cX5_pour 12 = .ok (.aload_n 0, 1) := by decide +kernel
theorem dX5_pour_13 : decode cX5_pour 13 = .ok (.iload 4, 2) := by decide +kernel
theorem dX5_pour_15 : decode cX5_pour 15 = .ok (.iconst 1, 1) := by decide +kernel
theorem dX5_pour_16 : decode cX5_pour 16 = .ok (.invokevirtual 56, 3) := by decide +kernel
theorem dX5_pour_19 : decode cX5_pour 19 = .ok (.aload_n 0, 1) := by decide +kernel
theorem dX5_pour_20 : decode cX5_pour 20 = .ok (.iload 4, 2) := by decide +kernel
theorem dX5_pour_22 : decode cX5_pour 22 = .ok (.iconst 2, 1) := by decide +kernel
theorem dX5_pour_23 : decode cX5_pour 23 = .ok (.invokevirtual 56, 3) := by decide +kernel
theorem dX5_pour_26 : decode cX5_pour 26 = .ok (.isub, 1) := by decide +kernel
theorem dX5_pour_27 : decode cX5_pour 27 = .ok (.invokestatic 70, 3) := by decide +kernel
theorem dX5_pour_30 : decode cX5_pour 30 = .ok (.istore 5, 2) := by decide +kernel
theorem dX5_pour_32 : decode cX5_pour 32 = .ok (.aload_n 0, 1) := by decide +kernel
theorem dX5_pour_33 : decode cX5_pour 33 = .ok (.iload 4, 2) := by decide +kernel
theorem dX5_pour_35 : decode cX5_pour 35 = .ok (.iconst 2, 1) := by decide +kernel
theorem dX5_pour_36 : decode cX5_pour 36 = .ok (.aload_n 0, 1) := by decide +kernel
theorem dX5_pour_37 : decode cX5_pour 37 = .ok (.iload 4, 2) := by decide +kernel
theorem dX5_pour_39 : decode cX5_pour 39 = .ok (.iconst 2, 1) := by decide +kernel
theorem dX5_pour_40 : decode cX5_pour 40 = .ok (.invokevirtual 56, 3) := by decide +kernel
theorem dX5_pour_43 : decode cX5_pour 43 = .ok (.iload 5, 2) := by decide +kernel
theorem dX5_pour_45 : decode cX5_pour 45 = .ok (.iadd, 1) := by decide +kernel
theorem dX5_pour_46 : decode cX5_pour 46 = .ok (.invokevirtual 60, 3) := by decide +kernel
theorem dX5_pour_49 : decode cX5_pour 49 = .ok (.iload_n 3, 1) := by decide +kernel
theorem dX5_pour_50 : decode cX5_pour 50 = .ok (.iload 5, 2) := by decide +kernel
theorem dX5_pour_52 : decode cX5_pour 52 = .ok (.isub, 1) := by decide +kernel
theorem dX5_pour_53 : decode cX5_pour 53 = .ok (.istore_n 3, 1) := by decide +kernel
theorem dX5_pour_54 : decode cX5_pour 54 = .ok (.aload_n 0, 1) := by decide +kernel
theorem dX5_pour_55 : decode cX5_pour 55 = .ok (.iload 4, 2) := by decide +kernel
theorem dX5_pour_57 : decode cX5_pour 57 = .ok (.bipush 6, 2) := by decide +kernel
theorem dX5_pour_59 : decode cX5_pour 59 = .ok (.invokevirtual 56, 3) := by decide +kernel
theorem dX5_pour_62 : decode cX5_pour 62 = .ok (.istore 4, 2) := by decide +kernel
theorem dX5_pour_64 : decode cX5_pour 64 = .ok (.goto (-59), 3) := by decide +kernel
theorem dX5_pour_67 : decode cX5_pour 67 = .ok (.aload_n 0, 1) := by decide +kernel
theorem dX5_pour_68 : decode cX5_pour 68 = .ok (.getfield 25, 3) := by decide +kernel
theorem dX5_pour_71 : decode cX5_pour 71 = .ok (.iconst 2, 1) := by decide +kernel
theorem dX5_pour_72 : decode cX5_pour 72 = .ok (.dup2, 1) := by decide +kernel
theorem dX5_pour_73 : decode cX5_pour 73 = .ok (.iaload, 1) := by decide +kernel
theorem dX5_pour_74 : decode cX5_pour 74 = .ok (.iload_n 3, 1) := by decide +kernel
theorem dX5_pour_75 : decode cX5_pour 75 = .ok (.iadd, 1) := by decide +kernel
theorem dX5_pour_76 : decode cX5_pour 76 = .ok (.iastore, 1) := by decide +kernel
theorem dX5_pour_77 : decode cX5_pour 77 = .ok (.iload_n 3, 1) := by decide +kernel
theorem dX5_pour_78 : decode cX5_pour 78 = .ok (.ireturn, 1) := by decide +kernel
theorem dX5_cart_0 : decode cX5_cart 0 = .ok (.aload_n 0, 1) := by decide +kernel
theorem dX5_cart_1 : decode cX5_cart 1 = .ok (.iconst 0, 1) := by decide +kernel
theorem dX5_cart_2 : decode cX5_cart 2 = .ok (.putfield 28, 3) := by decide +kernel
theorem dX5_cart_5 : decode cX5_cart 5 = .ok (.aload_n 0, 1) := by decide +kernel
theorem dX5_cart_6 : decode cX5_cart 6 = .ok (.iload_n 1, 1) := by decide +kernel
theorem dX5_cart_7 : decode cX5_cart 7 = .ok (.invokevirtual 52, 3) := by decide +kernel
theorem dX5_cart_10 : decode cX5_cart 10 = .ok (.ifCond .ne 9, 3) := by decide +kernel
theorem dX5_cart_13 : decode cX5_cart 13 = .ok (.aload_n 0, 1) := by decide +kernel
theorem dX5_cart_14 : decode cX5_cart 14 = .ok (.iconst 1, 1) := by decide +kernel
theorem dX5_cart_15 : decode cX5_cart 15 = .ok (.invokevirtual 42, 3) := by decide +kernel
theorem dX5_cart_18 : decode cX5_cart 18 = .ok (.ireturn, 1) := by decide +kernel
theorem dX5_cart_19 : decode cX5_cart 19 = .ok (.iload_n 2, 1) := by decide +kernel
theorem dX5_cart_20 : decode cX5_cart 20 = .ok (.iconst 1, 1) := by decide +kernel
theorem dX5_cart_21 : decode cX5_cart 21 = .ok (.sipush 500, 3) := by decide +kernel
theorem dX5_cart_24 : decode cX5_cart 24 = .ok (.invokestatic 35, 3) := by decide +kernel
theorem dX5_cart_27 : decode cX5_cart 27 = .ok (.ifCond .ne 9, 3) := by decide +kernel
theorem dX5_cart_30 : decode cX5_cart 30 = .ok (.aload_n 0, 1) := by decide +kernel
theorem dX5_cart_31 : decode cX5_cart 31 = .ok (.iconst 2, 1) := by decide +kernel
theorem dX5_cart_32 : decode cX5_cart 32 = .ok (.invokevirtual 42, 3) := by decide +kernel
theorem dX5_cart_35 : decode cX5_cart 35 = .ok (.ireturn, 1) := by decide +kernel
theorem dX5_cart_36 : decode cX5_cart 36 = .ok (.aload_n 0, 1) := by decide +kernel
theorem dX5_cart_37 : decode cX5_cart 37 = .ok (.getfield 25, 3) := by decide +kernel
theorem dX5_cart_40 : decode cX5_cart 40 = .ok (.iconst 4, 1) := by decide +kernel
theorem dX5_cart_41 : decode cX5_cart 41 = .ok (.dup2, 1) := by decide +kernel
theorem dX5_cart_42 : decode cX5_cart 42 = .ok (.iaload, 1) := by decide +kernel
theorem dX5_cart_43 : decode cX5_cart 43 = .ok (.iload_n 2, 1) := by decide +kernel
theorem dX5_cart_44 : decode cX5_cart 44 = .ok (.iadd, 1) := by decide +kernel
theorem dX5_cart_45 : decode cX5_cart 45 = .ok (.iastore, 1) := by decide +kernel
theorem dX5_cart_46 : decode cX5_cart 46 = .ok (.aload_n 0, 1) := by decide +kernel
theorem dX5_cart_47 : decode cX5_cart 47 = .ok (.iload_n 1, 1) := by decide +kernel
theorem dX5_cart_48 : decode cX5_cart 48 = .ok (.iload_n 2, 1) := by decide +kernel
theorem dX5_cart_49 : decode cX5_cart 49 = .ok (.invokevirtual 75, 3) := by decide +kernel
theorem dX5_cart_52 : decode cX5_cart 52 = .ok (.ireturn, 1) := by decide +kernel
theorem dX5_setPeople_0 : decode cX5_setPeople 0 = .ok (.aload_n 0, 1) := by decide +kernel
theorem dX5_setPeople_1 : decode cX5_setPeople 1 = .ok (.iconst 0, 1) := by decide +kernel
theorem dX5_setPeople_2 : decode cX5_setPeople 2 = .ok (.putfield 28, 3) := by decide +kernel
theorem dX5_setPeople_5 : decode cX5_setPeople 5 = .ok (.aload_n 0, 1) := by decide +kernel
theorem dX5_setPeople_6 : decode cX5_setPeople 6 = .ok (.iload_n 1, 1) := by decide +kernel
theorem dX5_setPeople_7 : decode cX5_setPeople 7 = .ok (.invokevirtual 52, 3) := by decide +kernel
theorem dX5_setPeople_10 : decode cX5_setPeople 10 = .ok (.ifCond .ne 9, 3) := by decide +kernel
theorem dX5_setPeople_13 : decode cX5_setPeople 13 = .ok (.aload_n 0, 1) := by decide +kernel
theorem dX5_setPeople_14 : decode cX5_setPeople 14 = .ok (.iconst 1, 1) := by decide +kernel
theorem dX5_setPeople_15 : decode cX5_setPeople 15 = .ok (.invokevirtual 42, 3) := by decide +kernel
theorem dX5_setPeople_18 : decode cX5_setPeople 18 = .ok (.ireturn, 1) := by decide +kernel
theorem dX5_setPeople_19 : decode cX5_setPeople 19 = .ok (.iload_n 2, 1) := by decide +kernel
theorem dX5_setPeople_20 : decode cX5_setPeople 20 = .ok (.iconst 0, 1) := by decide +kernel
theorem dX5_setPeople_21 : decode cX5_setPeople 21 = .ok (.bipush 9, 2) := by decide +kernel
theorem dX5_setPeople_23 : decode cX5_setPeople 23 = .ok (.invokestatic 35, 3) := by decide +kernel
theorem dX5_setPeople_26 : decode cX5_setPeople 26 = .ok (.ifCond .ne 9, 3) := by decide +kernel
theorem dX5_setPeople_29 : decode cX5_setPeople 29 = .ok (.aload_n 0, 1) := by decide +kernel
theorem dX5_setPeople_30 : decode cX5_setPeople 30 = .ok (.iconst 2, 1) := by decide +kernel
theorem dX5_setPeople_31 : decode cX5_setPeople 31 = .ok (.invokevirtual 42, 3) := by decide +kernel
theorem dX5_setPeople_34 : decode cX5_setPeople 34 = .ok (.ireturn, 1) := by decide +kernel
theorem dX5_setPeople_35 : decode cX5_setPeople 35 = .ok (.aload_n 0, 1) := by decide +kernel
theorem dX5_setPeople_36 : decode cX5_setPeople 36 = .ok (.iload_n 1, 1) := by decide +kernel
theorem dX5_setPeople_37 : decode cX5_setPeople 37 = .ok (.iconst 3, 1) := by decide +kernel
theorem dX5_setPeople_38 : decode cX5_setPeople 38 = .ok (.invokevirtual 56, 3) := by decide +kernel
theorem dX5_setPeople_41 : decode cX5_setPeople 41 = .ok (.istore_n 3, 1) := by decide +kernel
theorem dX5_setPeople_42 : decode cX5_setPeople 42 = .ok (.aload_n 0, 1) := by decide +kernel
theorem dX5_setPeople_43 : decode cX5_setPeople 43 = .ok (.iload_n 1, 1) := by decide +kernel
theorem dX5_setPeople_44 : decode cX5_setPeople 44 = .ok (.iconst 3, 1) := by decide +kernel
theorem dX5_setPeople_45 : decode cX5_setPeople 45 = .ok (.iload_n 2, 1) := by decide +kernel
theorem dX5_setPeople_46 : decode cX5_setPeople 46 = .ok (.invokevirtual 60, 3) := by decide +kernel
theorem dX5_setPeople_49 : decode cX5_setPeople 49 = .ok (.iload_n 3, 1) := by decide +kernel
theorem dX5_setPeople_50 : decode cX5_setPeople 50 = .ok (.ireturn, 1) := by decide +kernel
theorem dX5_house_0 : decode cX5_house 0 = .ok (.aload_n 0, 1) := by decide +kernel
theorem dX5_house_1 : decode cX5_house 1 = .ok (.iconst 0, 1) := by decide +kernel
theorem dX5_house_2 : decode cX5_house 2 = .ok (.putfield 28, 3) := by decide +kernel
theorem dX5_house_5 : decode cX5_house 5 = .ok (.aload_n 0, 1) := by decide +kernel
theorem dX5_house_6 : decode cX5_house 6 = .ok (.iload_n 1, 1) := by decide +kernel
theorem dX5_house_7 : decode cX5_house 7 = .ok (.invokevirtual 52, 3) := by decide +kernel
theorem dX5_house_10 : decode cX5_house 10 = .ok (.ifCond .eq 22, 3) := by decide +kernel
theorem dX5_house_13 : decode cX5_house 13 = .ok (.iload_n 2, 1) := by decide +kernel
theorem dX5_house_14 : decode cX5_house 14 = .ok (.iconst 0, 1) := by decide +kernel
theorem dX5_house_15 : decode cX5_house 15 = .ok (.bipush 9, 2) := by decide +kernel
theorem dX5_house_17 : decode cX5_house 17 = .ok (.invokestatic 35, 3) := by decide +kernel
theorem dX5_house_20 : decode cX5_house 20 = .ok (.ifCond .eq 12, 3) := by decide +kernel
theorem dX5_house_23 : decode cX5_house 23 = .ok (.aload_n 0, 1) := by decide +kernel
theorem dX5_house_24 : decode cX5_house 24 = .ok (.iload_n 1, 1) := by decide +kernel
theorem dX5_house_25 : decode cX5_house 25 = .ok (.iload_n 2, 1) := by decide +kernel
theorem dX5_house_26 : decode cX5_house 26 = .ok (.invokevirtual 56, 3) := by decide +kernel
theorem dX5_house_29 : decode cX5_house 29 = .ok (.goto 8, 3) := by decide +kernel
theorem dX5_house_32 : decode cX5_house 32 = .ok (.aload_n 0, 1) := by decide +kernel
theorem dX5_house_33 : decode cX5_house 33 = .ok (.iconst 1, 1) := by decide +kernel
theorem dX5_house_34 : decode cX5_house 34 = .ok (.invokevirtual 42, 3) := by decide +kernel
theorem dX5_house_37 : decode cX5_house 37 = .ok (.ireturn, 1) := by decide +kernel
theorem dX5_pipe_0 : decode cX5_pipe 0 = .ok (.aload_n 0, 1) := by decide +kernel
theorem dX5_pipe_1 : decode cX5_pipe 1 = .ok (.iconst 0, 1) := by decide +kernel
theorem dX5_pipe_2 : decode cX5_pipe 2 = .ok (.putfield 28, 3) := by decide +kernel
theorem dX5_pipe_5 : decode cX5_pipe 5 = .ok (.aload_n 0, 1) := by decide +kernel
theorem dX5_pipe_6 : decode cX5_pipe 6 = .ok (.iload_n 1, 1) := by decide +kernel
theorem dX5_pipe_7 : decode cX5_pipe 7 = .ok (.invokevirtual 64, 3) := by decide +kernel
theorem dX5_pipe_10 : decode cX5_pipe 10 = .ok (.ifCond .eq 21, 3) := by decide +kernel
theorem dX5_pipe_13 : decode cX5_pipe 13 = .ok (.iload_n 2, 1) := by decide +kernel
theorem dX5_pipe_14 : decode cX5_pipe 14 = .ok (.iconst 0, 1) := by decide +kernel
theorem dX5_pipe_15 : decode cX5_pipe 15 = .ok (.iconst 4, 1) := by decide +kernel
theorem dX5_pipe_16 : decode cX5_pipe 16 = .ok (.invokestatic 35, 3) := by decide +kernel
theorem dX5_pipe_19 : decode cX5_pipe 19 = .ok (.ifCond .eq 12, 3) := by decide +kernel
theorem dX5_pipe_22 : decode cX5_pipe 22 = .ok (.aload_n 0, 1) := by decide +kernel
theorem dX5_pipe_23 : decode cX5_pipe 23 = .ok (.iload_n 1, 1) := by decide +kernel
theorem dX5_pipe_24 : decode cX5_pipe 24 = .ok (.iload_n 2, 1) := by decide +kernel
theorem dX5_pipe_25 : decode cX5_pipe 25 = .ok (.invokevirtual 67, 3) := by decide +kernel
theorem dX5_pipe_28 : decode cX5_pipe 28 = .ok (.goto 8, 3) := by decide +kernel
theorem dX5_pipe_31 : decode cX5_pipe 31 = .ok (.aload_n 0, 1) := by decide +kernel
theorem dX5_pipe_32 : decode cX5_pipe 32 = .ok (.iconst 1, 1) := by decide +kernel
theorem dX5_pipe_33 : decode cX5_pipe 33 = .ok (.invokevirtual 42, 3) := by decide +kernel
theorem dX5_pipe_36 : decode cX5_pipe 36 = .ok (.ireturn, 1) := by decide +kernel
theorem dX5_debt_0 : decode cX5_debt 0 = .ok (.aload_n 0, 1) := by decide +kernel
theorem dX5_debt_1 : decode cX5_debt 1 = .ok (.getfield 22, 3) := by decide +kernel
theorem dX5_debt_4 : decode cX5_debt 4 = .ok (.bipush 10, 2) := by decide +kernel
theorem dX5_debt_6 : decode cX5_debt 6 = .ok (.iload_n 1, 1) := by decide +kernel
theorem dX5_debt_7 : decode cX5_debt 7 = .ok (.imul, 1) := by decide +kernel
theorem dX5_debt_8 : decode cX5_debt 8 = .ok (.iload_n 2, 1) := by decide +kernel
theorem dX5_debt_9 : decode cX5_debt 9 = .ok (.iadd, 1) := by decide +kernel
theorem dX5_debt_10 : decode cX5_debt 10 = .ok (.iaload, 1) := by decide +kernel
theorem dX5_debt_11 : decode cX5_debt 11 = .ok (.aload_n 0, 1) := by decide +kernel
theorem dX5_debt_12 : decode cX5_debt 12 = .ok (.getfield 22, 3) := by decide +kernel
theorem dX5_debt_15 : decode cX5_debt 15 = .ok (.bipush 10, 2) := by decide +kernel
theorem dX5_debt_17 : decode cX5_debt 17 = .ok (.iload_n 2, 1) := by decide +kernel
theorem dX5_debt_18 : decode cX5_debt 18 = .ok (.imul, 1) := by decide +kernel
theorem dX5_debt_19 : decode cX5_debt 19 = .ok (.iload_n 1, 1) := by decide +kernel
theorem dX5_debt_20 : decode cX5_debt 20 = .ok (.iadd, 1) := by decide +kernel
theorem dX5_debt_21 : decode cX5_debt 21 = .ok (.iaload, 1) := by decide +kernel
theorem dX5_debt_22 : decode cX5_debt 22 = .ok (.isub, 1) := by decide +kernel
theorem dX5_debt_23 : decode cX5_debt 23 = .ok (.ireturn, 1) := by decide +kernel
theorem dX5_owes_0 : decode cX5_owes 0 = .ok (.aload_n 0, 1) := by decide +kernel
theorem dX5_owes_1 : decode cX5_owes 1 = .ok (.iconst 0, 1) := by decide +kernel
theorem dX5_owes_2 : decode cX5_owes 2 = .ok (.putfield 28, 3) := by decide +kernel
theorem dX5_owes_5 : decode cX5_owes 5 = .ok (.aload_n 0, 1) := by decide +kernel
theorem dX5_owes_6 : decode cX5_owes 6 = .ok (.iload_n 1, 1) := by decide +kernel
theorem dX5_owes_7 : decode cX5_owes 7 = .ok (.invokevirtual 52, 3) := by decide +kernel
theorem dX5_owes_10 : decode cX5_owes 10 = .ok (.ifCond .eq 20, 3) := by decide +kernel
theorem dX5_owes_13 : decode cX5_owes 13 = .ok (.aload_n 0, 1) := by decide +kernel
theorem dX5_owes_14 : decode cX5_owes 14 = .ok (.iload_n 2, 1) := by decide +kernel
theorem dX5_owes_15 : decode cX5_owes 15 = .ok (.invokevirtual 52, 3) := by decide +kernel
theorem dX5_owes_18 : decode cX5_owes 18 = .ok (.ifCond .eq 12, 3) := by decide +kernel
theorem dX5_owes_21 : decode cX5_owes 21 = .ok (.aload_n 0, 1) := by decide +kernel
theorem dX5_owes_22 : decode cX5_owes 22 = .ok (.iload_n 1, 1) := by decide +kernel
theorem dX5_owes_23 : decode cX5_owes 23 = .ok (.iload_n 2, 1) := by decide +kernel
theorem dX5_owes_24 : decode cX5_owes 24 = .ok (.invokevirtual 78, 3) := by decide +kernel
theorem dX5_owes_27 : decode cX5_owes 27 = .ok (.goto 8, 3) := by decide +kernel
theorem dX5_owes_30 : decode cX5_owes 30 = .ok (.aload_n 0, 1) := by decide +kernel
theorem dX5_owes_31 : decode cX5_owes 31 = .ok (.iconst 1, 1) := by decide +kernel
theorem dX5_owes_32 : decode cX5_owes 32 = .ok (.invokevirtual 42, 3) := by decide +kernel
theorem dX5_owes_35 : decode cX5_owes 35 = .ok (.ireturn, 1) := by decide +kernel
theorem dX5_even_0 : decode cX5_even 0 = .ok (.aload_n 0, 1) := by decide +kernel
theorem dX5_even_1 : decode cX5_even 1 = .ok (.iload_n 1, 1) := by decide +kernel
theorem dX5_even_2 : decode cX5_even 2 = .ok (.iconst 0, 1) := by decide +kernel
theorem dX5_even_3 : decode cX5_even 3 = .ok (.invokevirtual 67, 3) := by decide +kernel
theorem dX5_even_6 : decode cX5_even 6 = .ok (.istore_n 2, 1) := by decide +kernel
theorem dX5_even_7 : decode cX5_even 7 = .ok (.aload_n 0, 1) := by decide +kernel
theorem dX5_even_8 : decode cX5_even 8 = .ok (.iload_n 1, 1) := by decide +kernel
theorem dX5_even_9 : decode cX5_even 9 = .ok (.iconst 1, 1) := by decide +kernel
theorem dX5_even_10 : decode cX5_even 10 = .ok (.invokevirtual 67, 3) := by decide +kernel
theorem dX5_even_13 : decode cX5_even 13 = .ok (.istore_n 3, 1) := by decide +kernel
theorem dX5_even_14 : decode cX5_even 14 = .ok (.aload_n 0, 1) := by decide +kernel
theorem dX5_even_15 : decode cX5_even 15 = .ok (.iload_n 2, 1) := by decide +kernel
theorem dX5_even_16 : decode cX5_even 16 = .ok (.iconst 2, 1) := by decide +kernel
theorem dX5_even_17 : decode cX5_even 17 = .ok (.invokevirtual 56, 3) := by decide +kernel
theorem dX5_even_20 : decode cX5_even 20 = .ok (.aload_n 0, 1) := by decide +kernel
theorem dX5_even_21 : decode cX5_even 21 = .ok (.iload_n 3, 1) := by decide +kernel
theorem dX5_even_22 : decode cX5_even 22 = .ok (.iconst 1, 1) := by decide +kernel
theorem dX5_even_23 : decode cX5_even 23 = .ok (.invokevirtual 56, 3) := by decide +kernel
theorem dX5_even_26 : decode cX5_even 26 = .ok (.imul, 1) := by decide +kernel
theorem dX5_even_27 : decode cX5_even 27 = .ok (.aload_n 0, 1) := by decide +kernel
theorem dX5_even_28 : decode cX5_even 28 = .ok (.iload_n 3, 1) := by decide +kernel
theorem dX5_even_29 : decode cX5_even 29 = .ok (.iconst 2, 1) := by decide +kernel
theorem dX5_even_30 : decode cX5_even 30 = .ok (.invokevirtual 56, 3) := by decide +kernel
theorem dX5_even_33 : decode cX5_even 33 = .ok (.aload_n 0, 1) := by decide +kernel
theorem dX5_even_34 : decode cX5_even 34 = .ok (.iload_n 2, 1) := by decide +kernel
theorem dX5_even_35 : decode cX5_even 35 = .ok (.iconst 1, 1) := by decide +kernel
theorem dX5_even_36 : decode cX5_even 36 = .ok (.invokevirtual 56, 3) := by decide +kernel
theorem dX5_even_39 : decode cX5_even 39 = .ok (.imul, 1) := by decide +kernel
theorem dX5_even_40 : decode cX5_even 40 = .ok (.isub, 1) := by decide +kernel
theorem dX5_even_41 : decode cX5_even 41 = .ok (.istore 4, 2) := by decide +kernel
theorem dX5_even_43 : decode cX5_even 43 = .ok (.iload 4, 2) := by decide +kernel
theorem dX5_even_45 : decode cX5_even 45 = .ok (.ifCond .le 7, 3) := by decide +kernel
theorem dX5_even_48 : decode cX5_even 48 = .ok (.iload_n 2, 1) := by decide +kernel
theorem dX5_even_49 : decode cX5_even 49 = .ok (.goto 4, 3) := by decide +kernel
theorem dX5_even_52 : decode cX5_even 52 = .ok (.iload_n 3, 1) := by decide +kernel
theorem dX5_even_53 : decode cX5_even 53 = .ok (.istore 5, 2) := by decide +kernel
theorem dX5_even_55 : decode cX5_even 55 = .ok (.iload 4, 2) := by decide +kernel
theorem dX5_even_57 : decode cX5_even 57 = .ok (.ifCond .le 7, 3) := by decide +kernel
theorem dX5_even_60 : decode cX5_even 60 = .ok (.iload_n 3, 1) := by decide +kernel
theorem dX5_even_61 : decode cX5_even 61 = .ok (.goto 4, 3) := by decide +kernel
theorem dX5_even_64 : decode cX5_even 64 = .ok (.iload_n 2, 1) := by decide +kernel
theorem dX5_even_65 : decode cX5_even 65 = .ok (.istore 6, 2) := by decide +kernel
theorem dX5_even_67 : decode cX5_even 67 = .ok (.aload_n 0, 1) := by decide +kernel
theorem dX5_even_68 : decode cX5_even 68 = .ok (.iload_n 1, 1) := by decide +kernel
theorem dX5_even_69 : decode cX5_even 69 = .ok (.iconst 2, 1) := by decide +kernel
theorem dX5_even_70 : decode cX5_even 70 = .ok (.invokevirtual 67, 3) := by decide +kernel
theorem dX5_even_73 : decode cX5_even 73 = .ok (.iload 4, 2) := by decide +kernel
theorem dX5_even_75 : decode cX5_even 75 = .ok (.invokestatic 81, 3) := by decide +kernel
theorem dX5_even_78 : decode cX5_even 78 = .ok (.aload_n 0, 1) := by decide +kernel
theorem dX5_even_79 : decode cX5_even 79 = .ok (.iload_n 2, 1) := by decide +kernel
theorem dX5_even_80 : decode cX5_even 80 = .ok (.iconst 1, 1) := by decide +kernel
theorem dX5_even_81 : decode cX5_even 81 = .ok (.invokevirtual 56, 3) := by decide +kernel
theorem dX5_even_84 : decode cX5_even 84 = .ok (.aload_n 0, 1) := by decide +kernel
theorem dX5_even_85 : decode cX5_even 85 = .ok (.iload_n 3, 1) := by decide +kernel
theorem dX5_even_86 : decode cX5_even 86 = .ok (.iconst 1, 1) := by decide +kernel
theorem dX5_even_87 : decode cX5_even 87 = .ok (.invokevirtual 56, 3) := by decide +kernel
theorem dX5_even_90 : decode cX5_even 90 = .ok (.iadd, 1) := by decide +kernel
theorem dX5_even_91 : decode cX5_even 91 = .ok (.idiv, 1) := by decide +kernel
theorem dX5_even_92 : decode cX5_even 92 = .ok (.invokestatic 70, 3) := by decide +kernel
theorem dX5_even_95 : decode cX5_even 95 = .ok (.istore 7, 2) := by decide +kernel
theorem dX5_even_97 : decode cX5_even 97 = .ok (.aload_n 0, 1) := by decide +kernel
theorem dX5_even_98 : decode cX5_even 98 = .ok (.iload 5, 2) := by decide +kernel
theorem dX5_even_100 : decode cX5_even 100 = .ok (.iconst 2, 1) := by decide +kernel
theorem dX5_even_101 : decode cX5_even 101 = .ok (.aload_n 0, 1) := by decide +kernel
theorem dX5_even_102 : decode cX5_even 102 = .ok (.iload 5, 2) := by decide +kernel
theorem dX5_even_104 : decode cX5_even 104 = .ok (.iconst 2, 1) := by decide +kernel
theorem dX5_even_105 : decode cX5_even 105 = .ok (.invokevirtual 56, 3) := by decide +kernel
theorem dX5_even_108 : decode cX5_even 108 = .ok (.iload 7, 2) := by decide +kernel
theorem dX5_even_110 : decode cX5_even 110 = .ok (.isub, 1) := by decide +kernel
theorem dX5_even_111 : decode cX5_even 111 = .ok (.invokevirtual 60, 3) := by decide +kernel
theorem dX5_even_114 : decode cX5_even 114 = .ok (.aload_n 0, 1) := by decide +kernel
theorem dX5_even_115 : decode cX5_even 115 = .ok (.iload 6, 2) := by decide +kernel
theorem dX5_even_117 : decode cX5_even 117 = .ok (.iconst 2, 1) := by decide +kernel
theorem dX5_even_118 : decode cX5_even 118 = .ok (.aload_n 0, 1) := by decide +kernel
theorem dX5_even_119 : decode cX5_even 119 = .ok (.iload 6, 2) := by decide +kernel
theorem dX5_even_121 : decode cX5_even 121 = .ok (.iconst 2, 1) := by decide +kernel
theorem dX5_even_122 : decode cX5_even 122 = .ok (.invokevirtual 56, 3) := by decide +kernel
theorem dX5_even_125 : decode cX5_even 125 = .ok (.iload 7, 2) := by decide +kernel
theorem dX5_even_127 : decode cX5_even 127 = .ok (.iadd, 1) := by decide +kernel
theorem dX5_even_128 : decode cX5_even 128 = .ok (.invokevirtual 60, 3) := by decide +kernel
theorem dX5_even_131 : decode cX5_even 131 = .ok (.aload_n 0, 1) := by decide +kernel
theorem dX5_even_132 : decode cX5_even 132 = .ok (.getfield 19, 3) := by decide +kernel
theorem dX5_even_135 : decode cX5_even 135 = .ok (.iconst 5, 1) := by decide +kernel
theorem dX5_even_136 : decode cX5_even 136 = .ok (.iload_n 1, 1) := by decide +kernel
theorem dX5_even_137 : decode cX5_even 137 = .ok (.imul, 1) := by decide +kernel
theorem dX5_even_138 : decode cX5_even 138 = .ok (.iconst 4, 1) := by decide +kernel
theorem dX5_even_139 : decode cX5_even 139 = .ok (.iadd, 1) := by decide +kernel
theorem dX5_even_140 : decode cX5_even 140 = .ok (.dup2, 1) := by decide +kernel
theorem dX5_even_141 : decode cX5_even 141 = .ok (.iaload, 1) := by decide +kernel
theorem dX5_even_142 : decode cX5_even 142 = .ok (.iload 7, 2) := by decide +kernel
theorem dX5_even_144 : decode cX5_even 144 = .ok (.iadd, 1) := by decide +kernel
theorem dX5_even_145 : decode cX5_even 145 = .ok (.iastore, 1) := by decide +kernel
theorem dX5_even_146 : decode cX5_even 146 = .ok (.aload_n 0, 1) := by decide +kernel
theorem dX5_even_147 : decode cX5_even 147 = .ok (.getfield 22, 3) := by decide +kernel
theorem dX5_even_150 : decode cX5_even 150 = .ok (.bipush 10, 2) := by decide +kernel
theorem dX5_even_152 : decode cX5_even 152 = .ok (.iload 6, 2) := by decide +kernel
theorem dX5_even_154 : decode cX5_even 154 = .ok (.imul, 1) := by decide +kernel
theorem dX5_even_155 : decode cX5_even 155 = .ok (.iload 5, 2) := by decide +kernel
theorem dX5_even_157 : decode cX5_even 157 = .ok (.iadd, 1) := by decide +kernel
theorem dX5_even_158 : decode cX5_even 158 = .ok (.dup2, 1) := by decide +kernel
theorem dX5_even_159 : decode cX5_even 159 = .ok (.iaload, 1) := by decide +kernel
theorem dX5_even_160 : decode cX5_even 160 = .ok (.iload 7, 2) := by decide +kernel
theorem dX5_even_162 : decode cX5_even 162 = .ok (.iadd, 1) := by decide +kernel
theorem dX5_even_163 : decode cX5_even 163 = .ok (.iastore, 1) := by decide +kernel
theorem dX5_even_164 : decode cX5_even 164 = .ok (.return_, 1) := by decide +kernel
theorem dX5_dayOn_0 : decode cX5_dayOn 0 = .ok (.iconst 0, 1) := by decide +kernel
theorem dX5_dayOn_1 : decode cX5_dayOn 1 = .ok (.istore_n 1, 1) := by decide +kernel
theorem dX5_dayOn_2 : decode cX5_dayOn 2 = .ok (.aload_n 0, 1) := by decide +kernel
theorem dX5_dayOn_3 : decode cX5_dayOn 3 = .ok (.getfield 25, 3) := by decide +kernel
theorem dX5_dayOn_6 : decode cX5_dayOn 6 = .ok (.iconst 0, 1) := by decide +kernel
theorem dX5_dayOn_7 : decode cX5_dayOn 7 = .ok (.iaload, 1) := by decide +kernel
theorem dX5_dayOn_8 : decode cX5_dayOn 8 = .ok (.bipush 28, 2) := by decide +kernel
theorem dX5_dayOn_10 : decode cX5_dayOn 10 = .ok (.irem, 1) := by decide +kernel
theorem dX5_dayOn_11 : decode cX5_dayOn 11 = .ok (.istore_n 2, 1) := by decide +kernel
theorem dX5_dayOn_12 : decode cX5_dayOn 12 = .ok (.iconst 0, 1) := by decide +kernel
theorem dX5_dayOn_13 : decode cX5_dayOn 13 = .ok (.istore_n 3, 1) := by decide +kernel
theorem dX5_dayOn_14 : decode cX5_dayOn 14 = .ok (.iload_n 3, 1) := by decide +kernel
theorem dX5_dayOn_15 : decode cX5_dayOn 15 = .ok (.aload_n 0, 1) := by decide +kernel
theorem dX5_dayOn_16 : decode cX5_dayOn 16 = .ok (.getfield 32, 3) := by decide +kernel
theorem dX5_dayOn_19 : decode cX5_dayOn 19 = .ok (.if_icmp .ge 56, 3) := by decide +kernel
theorem dX5_dayOn_22 : decode cX5_dayOn 22 = .ok (.aload_n 0, 1) := by decide +kernel
theorem dX5_dayOn_23 : decode cX5_dayOn 23 = .ok (.iload_n 3, 1) := by decide +kernel
theorem dX5_dayOn_24 : decode cX5_dayOn 24 = .ok (.iconst 0, 1) := by decide +kernel
theorem dX5_dayOn_25 : decode cX5_dayOn 25 = .ok (.invokevirtual 56, 3) := by decide +kernel
theorem dX5_dayOn_28 : decode cX5_dayOn 28 = .ok (.aload_n 0, 1) := by decide +kernel
theorem dX5_dayOn_29 : decode cX5_dayOn 29 = .ok (.getfield 9, 3) := by decide +kernel
theorem dX5_dayOn_32 : decode cX5_dayOn 32 = .ok (.iload_n 2, 1) := by decide +kernel
theorem dX5_dayOn_33 : decode cX5_dayOn 33 = .ok (.iaload, 1) := by decide +kernel
theorem dX5_dayOn_34 : decode cX5_dayOn 34 = .ok (.imul, 1) := by decide +kernel
theorem dX5_dayOn_35 : decode cX5_dayOn 35 = .ok (.bipush 10, 2) := by decide +kernel
theorem dX5_dayOn_37 : decode cX5_dayOn 37 = .ok (.aload_n 0, 1) := by decide +kernel
theorem dX5_dayOn_38 : decode cX5_dayOn 38 = .ok (.iload_n 3, 1) := by decide +kernel
theorem dX5_dayOn_39 : decode cX5_dayOn 39 = .ok (.iconst 5, 1) := by decide +kernel
theorem dX5_dayOn_40 : decode cX5_dayOn 40 = .ok (.invokevirtual 56, 3) := by decide +kernel
theorem dX5_dayOn_43 : decode cX5_dayOn 43 = .ok (.isub, 1) := by decide +kernel
theorem dX5_dayOn_44 : decode cX5_dayOn 44 = .ok (.imul, 1) := by decide +kernel
theorem dX5_dayOn_45 : decode cX5_dayOn 45 = .ok (.bipush 10, 2) := by decide +kernel
theorem dX5_dayOn_47 : decode cX5_dayOn 47 = .ok (.idiv, 1) := by decide +kernel
theorem dX5_dayOn_48 : decode cX5_dayOn 48 = .ok (.istore 4, 2) := by decide +kernel
theorem dX5_dayOn_50 : decode cX5_dayOn 50 = .ok (.aload_n 0, 1) := by decide +kernel
theorem dX5_dayOn_51 : decode cX5_dayOn 51 = .ok (.getfield 25, 3) := by decide +kernel
theorem dX5_dayOn_54 : decode cX5_dayOn 54 = .ok (.iconst 1, 1) := by decide +kernel
theorem dX5_dayOn_55 : decode cX5_dayOn 55 = .ok (.dup2, 1) := by decide +kernel
theorem dX5_dayOn_56 : decode cX5_dayOn 56 = .ok (.iaload, 1) := by decide +kernel
theorem dX5_dayOn_57 : decode cX5_dayOn 57 = .ok (.iload 4, 2) := by decide +kernel
theorem dX5_dayOn_59 : decode cX5_dayOn 59 = .ok (.iadd, 1) := by decide +kernel
theorem dX5_dayOn_60 : decode cX5_dayOn 60 = .ok (.iastore, 1) := by decide +kernel
theorem dX5_dayOn_61 : decode cX5_dayOn 61 = .ok (.aload_n 0, 1) := by decide +kernel
theorem dX5_dayOn_62 : decode cX5_dayOn 62 = .ok (.iload_n 3, 1) := by decide +kernel
theorem dX5_dayOn_63 : decode cX5_dayOn 63 = .ok (.iload 4, 2) := by decide +kernel
theorem dX5_dayOn_65 : decode cX5_dayOn 65 = .ok (.invokevirtual 75, 3) := by decide +kernel
theorem dX5_dayOn_68 : decode cX5_dayOn 68 = .ok (.pop, 1) := by decide +kernel
theorem dX5_dayOn_69 : decode cX5_dayOn 69 = .ok (.iinc 3 1, 3) := by decide +kernel
theorem dX5_dayOn_72 : decode cX5_dayOn 72 = .ok (.goto (-58), 3) := by decide +kernel
theorem dX5_dayOn_75 : decode cX5_dayOn 75 = .ok (.iconst 0, 1) := by decide +kernel
theorem dX5_dayOn_76 : decode cX5_dayOn 76 = .ok (.istore_n 3, 1) := by decide +kernel
theorem dX5_dayOn_77 : decode cX5_dayOn 77 = .ok (.iload_n 3, 1) := by decide +kernel
theorem dX5_dayOn_78 : decode cX5_dayOn 78 = .ok (.aload_n 0, 1) := by decide +kernel
theorem dX5_dayOn_79 : decode cX5_dayOn 79 = .ok (.getfield 32, 3) := by decide +kernel
theorem dX5_dayOn_82 : decode cX5_dayOn 82 = .ok (.if_icmp .ge 109, 3) := by decide +kernel
theorem dX5_dayOn_85 : decode cX5_dayOn 85 = .ok (.iconst 3, 1) := by decide +kernel
theorem dX5_dayOn_86 : decode cX5_dayOn 86 = .ok (.aload_n 0, 1) := by decide +kernel
theorem dX5_dayOn_87 : decode cX5_dayOn 87 = .ok (.iload_n 3, 1) := by decide +kernel
theorem dX5_dayOn_88 : decode cX5_dayOn 88 = .ok (.iconst 3, 1) := by decide +kernel
theorem dX5_dayOn_89 : decode cX5_dayOn 89 = .ok (.invokevirtual 56, 3) := by decide +kernel
theorem dX5_dayOn_92 : decode cX5_dayOn 92 = .ok (.imul, 1) := by decide +kernel
theorem dX5_dayOn_93 : decode cX5_dayOn 93 = .ok (.istore 4, 2) := by decide +kernel
theorem dX5_dayOn_95 : decode cX5_dayOn 95 = .ok (.iload 4, 2) := by decide +kernel
theorem dX5_dayOn_97 : decode cX5_dayOn 97 = .ok (.aload_n 0, 1) := by decide +kernel
theorem dX5_dayOn_98 : decode cX5_dayOn 98 = .ok (.iload_n 3, 1) := by decide +kernel
theorem dX5_dayOn_99 : decode cX5_dayOn 99 = .ok (.iconst 2, 1) := by decide +kernel
theorem dX5_dayOn_100 : decode cX5_dayOn 100 = .ok (.invokevirtual 56, 3) := by decide +kernel
theorem dX5_dayOn_103 : decode cX5_dayOn 103 = .ok (.invokestatic 70, 3) := by decide +kernel
theorem dX5_dayOn_106 : decode cX5_dayOn 106 = .ok (.istore 5, 2) := by decide +kernel
theorem dX5_dayOn_108 : decode cX5_dayOn 108 = .ok (.aload_n 0, 1) := by decide +kernel
theorem dX5_dayOn_109 : decode cX5_dayOn 109 = .ok (.iload_n 3, 1) := by decide +kernel
theorem dX5_dayOn_110 : decode cX5_dayOn 110 = .ok (.iconst 2, 1) := by decide +kernel
theorem dX5_dayOn_111 : decode cX5_dayOn 111 = .ok (.aload_n 0, 1) := by decide +kernel
theorem dX5_dayOn_112 : decode cX5_dayOn 112 = .ok (.iload_n 3, 1) := by decide +kernel
theorem dX5_dayOn_113 : decode cX5_dayOn 113 = .ok (.iconst 2, 1) := by decide +kernel
theorem dX5_dayOn_114 : decode cX5_dayOn 114 = .ok (.invokevirtual 56, 3) := by decide +kernel
theorem dX5_dayOn_117 : decode cX5_dayOn 117 = .ok (.iload 5, 2) := by decide +kernel
theorem dX5_dayOn_119 : decode cX5_dayOn 119 = .ok (.isub, 1) := by decide +kernel
theorem dX5_dayOn_120 : decode cX5_dayOn 120 = .ok (.invokevirtual 60, 3) := by decide +kernel
theorem dX5_dayOn_123 : decode cX5_dayOn 123 = .ok (.aload_n 0, 1) := by decide +kernel
theorem dX5_dayOn_124 : decode cX5_dayOn 124 = .ok (.iload_n 3, 1) := by decide +kernel
theorem dX5_dayOn_125 : decode cX5_dayOn 125 = .ok (.bipush 7, 2) := by decide +kernel
theorem dX5_dayOn_127 : decode cX5_dayOn 127 = .ok (.aload_n 0, 1) := by decide +kernel
theorem dX5_dayOn_128 : decode cX5_dayOn 128 = .ok (.iload_n 3, 1) := by decide +kernel
theorem dX5_dayOn_129 : decode cX5_dayOn 129 = .ok (.bipush 7, 2) := by decide +kernel
theorem dX5_dayOn_131 : decode cX5_dayOn 131 = .ok (.invokevirtual 56, 3) := by decide +kernel
theorem dX5_dayOn_134 : decode cX5_dayOn 134 = .ok (.iload 4, 2) := by decide +kernel
theorem dX5_dayOn_136 : decode cX5_dayOn 136 = .ok (.iadd, 1) := by decide +kernel
theorem dX5_dayOn_137 : decode cX5_dayOn 137 = .ok (.iload 5, 2) := by decide +kernel
theorem dX5_dayOn_139 : decode cX5_dayOn 139 = .ok (.isub, 1) := by decide +kernel
theorem dX5_dayOn_140 : decode cX5_dayOn 140 = .ok (.invokevirtual 60, 3) := by decide +kernel
theorem dX5_dayOn_143 : decode cX5_dayOn 143 = .ok (.iload 5, 2) := by decide +kernel
theorem dX5_dayOn_145 : decode cX5_dayOn 145 = .ok (.iload 4, 2) := by decide +kernel
theorem dX5_dayOn_147 : decode cX5_dayOn 147 = .ok (.if_icmp .ge 19, 3) := by decide +kernel
theorem dX5_dayOn_150 : decode cX5_dayOn 150 = .ok (.aload_n 0, 1) := by decide +kernel
theorem dX5_dayOn_151 : decode cX5_dayOn 151 = .ok (.iload_n 3, 1) := by decide +kernel
theorem dX5_dayOn_152 : decode cX5_dayOn 152 = .ok (.bipush 9, 2) := by decide +kernel
theorem dX5_dayOn_154 : decode cX5_dayOn 154 = .ok (.aload_n 0, 1) := by decide +kernel
theorem dX5_dayOn_155 : decode cX5_dayOn 155 = .ok (.iload_n 3, 1) := by decide +kernel
theorem dX5_dayOn_156 : decode cX5_dayOn 156 = .ok (.bipush 9, 2) := by decide +kernel
theorem dX5_dayOn_158 : decode cX5_dayOn 158 = .ok (.invokevirtual 56, 3) := by decide +kernel
theorem dX5_dayOn_161 : decode cX5_dayOn 161 = .ok (.iconst 1, 1) := by decide +kernel
theorem dX5_dayOn_162 : decode cX5_dayOn 162 = .ok (.iadd, 1) := by decide +kernel
theorem dX5_dayOn_163 : decode cX5_dayOn 163 = .ok (.invokevirtual 60, 3) := by decide +kernel
theorem dX5_dayOn_166 : decode cX5_dayOn 166 = .ok (.aload_n 0, 1) := by decide +kernel
theorem dX5_dayOn_167 : decode cX5_dayOn 167 = .ok (.getfield 25, 3) := by decide +kernel
theorem dX5_dayOn_170 : decode cX5_dayOn 170 = .ok (.iconst 3, 1) := by decide +kernel
theorem dX5_dayOn_171 : decode cX5_dayOn 171 = .ok (.dup2, 1) := by decide +kernel
theorem dX5_dayOn_172 : decode cX5_dayOn 172 = .ok (.iaload, 1) := by decide +kernel
theorem dX5_dayOn_173 : decode cX5_dayOn 173 = .ok (.iload 5, 2) := by decide +kernel
theorem dX5_dayOn_175 : decode cX5_dayOn 175 = .ok (.iadd, 1) := by decide +kernel
theorem dX5_dayOn_176 : decode cX5_dayOn 176 = .ok (.iastore, 1) := by decide +kernel
theorem dX5_dayOn_177 : decode cX5_dayOn 177 = .ok (.iload_n 1, 1) := by decide +kernel
theorem dX5_dayOn_178 : decode cX5_dayOn 178 = .ok (.iload 4, 2) := by decide +kernel
theorem dX5_dayOn_180 : decode cX5_dayOn 180 = .ok (.iload 5, 2) := by decide +kernel
theorem dX5_dayOn_182 : decode cX5_dayOn 182 = .ok (.isub, 1) := by decide +kernel
theorem dX5_dayOn_183 : decode cX5_dayOn 183 = .ok (.iadd, 1) := by decide +kernel
theorem dX5_dayOn_184 : decode cX5_dayOn 184 = .ok (.istore_n 1, 1) := by decide +kernel
theorem dX5_dayOn_185 : decode cX5_dayOn 185 = .ok (.iinc 3 1, 3) := by decide +kernel
theorem dX5_dayOn_188 : decode cX5_dayOn 188 = .ok (.goto (-111), 3) := by decide +kernel
theorem dX5_dayOn_191 : decode cX5_dayOn 191 = .ok (.iconst 0, 1) := by decide +kernel
theorem dX5_dayOn_192 : decode cX5_dayOn 192 = .ok (.istore_n 3, 1) := by decide +kernel
theorem dX5_dayOn_193 : decode cX5_dayOn 193 = .ok (.iload_n 3, 1) := by decide +kernel
theorem dX5_dayOn_194 : decode cX5_dayOn 194 = .ok (.aload_n 0, 1) := by decide +kernel
theorem dX5_dayOn_195 : decode cX5_dayOn 195 = .ok (.getfield 32, 3) := by decide +kernel
theorem dX5_dayOn_198 : decode cX5_dayOn 198 = .ok (.if_icmp .ge 82, 3) := by decide +kernel
theorem dX5_dayOn_201 : decode cX5_dayOn 201 = .ok (.iconst 2, 1) := by decide +kernel
theorem dX5_dayOn_202 : decode cX5_dayOn 202 = .ok (.aload_n 0, 1) := by decide +kernel
theorem dX5_dayOn_203 : decode cX5_dayOn 203 = .ok (.iload_n 3, 1) := by decide +kernel
theorem dX5_dayOn_204 : decode cX5_dayOn 204 = .ok (.iconst 2, 1) := by decide +kernel
theorem dX5_dayOn_205 : decode cX5_dayOn 205 = .ok (.invokevirtual 56, 3) := by decide +kernel
theorem dX5_dayOn_208 : decode cX5_dayOn 208 = .ok (.imul, 1) := by decide +kernel
theorem dX5_dayOn_209 : decode cX5_dayOn 209 = .ok (.aload_n 0, 1) := by decide +kernel
theorem dX5_dayOn_210 : decode cX5_dayOn 210 = .ok (.iload_n 3, 1) := by decide +kernel
theorem dX5_dayOn_211 : decode cX5_dayOn 211 = .ok (.iconst 1, 1) := by decide +kernel
theorem dX5_dayOn_212 : decode cX5_dayOn 212 = .ok (.invokevirtual 56, 3) := by decide +kernel
theorem dX5_dayOn_215 : decode cX5_dayOn 215 = .ok (.isub, 1) := by decide +kernel
theorem dX5_dayOn_216 : decode cX5_dayOn 216 = .ok (.istore 4, 2) := by decide +kernel
theorem dX5_dayOn_218 : decode cX5_dayOn 218 = .ok (.iload 4, 2) := by decide +kernel
theorem dX5_dayOn_220 : decode cX5_dayOn 220 = .ok (.ifCond .le 19, 3) := by decide +kernel
theorem dX5_dayOn_223 : decode cX5_dayOn 223 = .ok (.aload_n 0, 1) := by decide +kernel
theorem dX5_dayOn_224 : decode cX5_dayOn 224 = .ok (.iload_n 3, 1) := by decide +kernel
theorem dX5_dayOn_225 : decode cX5_dayOn 225 = .ok (.iconst 4, 1) := by decide +kernel
theorem dX5_dayOn_226 : decode cX5_dayOn 226 = .ok (.invokevirtual 56, 3) := by decide +kernel
theorem dX5_dayOn_229 : decode cX5_dayOn 229 = .ok (.iload 4, 2) := by decide +kernel
theorem dX5_dayOn_231 : decode cX5_dayOn 231 = .ok (.iconst 2, 1) := by decide +kernel
theorem dX5_dayOn_232 : decode cX5_dayOn 232 = .ok (.idiv, 1) := by decide +kernel
theorem dX5_dayOn_233 : decode cX5_dayOn 233 = .ok (.invokestatic 70, 3) := by decide +kernel
theorem dX5_dayOn_236 : decode cX5_dayOn 236 = .ok (.goto 4, 3) := by decide +kernel
theorem dX5_dayOn_239 : decode cX5_dayOn 239 = .ok (.iconst 0, 1) := by decide +kernel
theorem dX5_dayOn_240 : decode cX5_dayOn 240 = .ok (.istore 5, 2) := by decide +kernel
theorem dX5_dayOn_242 : decode cX5_dayOn 242 = .ok (.aload_n 0, 1) := by decide +kernel
theorem dX5_dayOn_243 : decode cX5_dayOn 243 = .ok (.iload_n 3, 1) := by decide +kernel
theorem dX5_dayOn_244 : decode cX5_dayOn 244 = .ok (.iconst 2, 1) := by decide +kernel
theorem dX5_dayOn_245 : decode cX5_dayOn 245 = .ok (.aload_n 0, 1) := by decide +kernel
theorem dX5_dayOn_246 : decode cX5_dayOn 246 = .ok (.iload_n 3, 1) := by decide +kernel
theorem dX5_dayOn_247 : decode cX5_dayOn 247 = .ok (.iconst 2, 1) := by decide +kernel
theorem dX5_dayOn_248 : decode cX5_dayOn 248 = .ok (.invokevirtual 56, 3) := by decide +kernel
theorem dX5_dayOn_251 : decode cX5_dayOn 251 = .ok (.iload 5, 2) := by decide +kernel
theorem dX5_dayOn_253 : decode cX5_dayOn 253 = .ok (.isub, 1) := by decide +kernel
theorem dX5_dayOn_254 : decode cX5_dayOn 254 = .ok (.invokevirtual 60, 3) := by decide +kernel
theorem dX5_dayOn_257 : decode cX5_dayOn 257 = .ok (.aload_n 0, 1) := by decide +kernel
theorem dX5_dayOn_258 : decode cX5_dayOn 258 = .ok (.iload_n 3, 1) := by decide +kernel
theorem dX5_dayOn_259 : decode cX5_dayOn 259 = .ok (.bipush 8, 2) := by decide +kernel
theorem dX5_dayOn_261 : decode cX5_dayOn 261 = .ok (.aload_n 0, 1) := by decide +kernel
theorem dX5_dayOn_262 : decode cX5_dayOn 262 = .ok (.iload_n 3, 1) := by decide +kernel
theorem dX5_dayOn_263 : decode cX5_dayOn 263 = .ok (.bipush 8, 2) := by decide +kernel
theorem dX5_dayOn_265 : decode cX5_dayOn 265 = .ok (.invokevirtual 56, 3) := by decide +kernel
theorem dX5_dayOn_268 : decode cX5_dayOn 268 = .ok (.iload 5, 2) := by decide +kernel
theorem dX5_dayOn_270 : decode cX5_dayOn 270 = .ok (.iadd, 1) := by decide +kernel
theorem dX5_dayOn_271 : decode cX5_dayOn 271 = .ok (.invokevirtual 60, 3) := by decide +kernel
theorem dX5_dayOn_274 : decode cX5_dayOn 274 = .ok (.iinc 3 1, 3) := by decide +kernel
theorem dX5_dayOn_277 : decode cX5_dayOn 277 = .ok (.goto (-84), 3) := by decide +kernel
theorem dX5_dayOn_280 : decode cX5_dayOn 280 = .ok (.iconst 0, 1) := by decide +kernel
theorem dX5_dayOn_281 : decode cX5_dayOn 281 = .ok (.istore_n 3, 1) := by decide +kernel
theorem dX5_dayOn_282 : decode cX5_dayOn 282 = .ok (.iload_n 3, 1) := by decide +kernel
theorem dX5_dayOn_283 : decode cX5_dayOn 283 = .ok (.aload_n 0, 1) := by decide +kernel
theorem dX5_dayOn_284 : decode cX5_dayOn 284 = .ok (.getfield 39, 3) := by decide +kernel
theorem dX5_dayOn_287 : decode cX5_dayOn 287 = .ok (.if_icmp .ge 24, 3) := by decide +kernel
theorem dX5_dayOn_290 : decode cX5_dayOn 290 = .ok (.aload_n 0, 1) := by decide +kernel
theorem dX5_dayOn_291 : decode cX5_dayOn 291 = .ok (.iload_n 3, 1) := by decide +kernel
theorem dX5_dayOn_292 : decode cX5_dayOn 292 = .ok (.iconst 3, 1) := by decide +kernel
theorem dX5_dayOn_293 : decode cX5_dayOn 293 = .ok (.invokevirtual 67, 3) := by decide +kernel
theorem dX5_dayOn_296 : decode cX5_dayOn 296 = .ok (.iconst 1, 1) := by decide +kernel
theorem dX5_dayOn_297 : decode cX5_dayOn 297 = .ok (.if_icmp .ne 8, 3) := by decide +kernel
theorem dX5_dayOn_300 : decode cX5_dayOn 300 = .ok (.aload_n 0, 1) := by decide +kernel
theorem dX5_dayOn_301 : decode cX5_dayOn 301 = .ok (.iload_n 3, 1) := by decide +kernel
theorem dX5_dayOn_302 : decode cX5_dayOn 302 = .ok (.invokevirtual 84, 3) := by decide +kernel
theorem dX5_dayOn_305 : decode cX5_dayOn 305 = .ok (.iinc 3 1, 3) := by decide +kernel
theorem dX5_dayOn_308 : decode cX5_dayOn 308 = .ok (.goto (-26), 3) := by decide +kernel
theorem dX5_dayOn_311 : decode cX5_dayOn 311 = .ok (.iconst 0, 1) := by decide +kernel
theorem dX5_dayOn_312 : decode cX5_dayOn 312 = .ok (.istore_n 3, 1) := by decide +kernel
theorem dX5_dayOn_313 : decode cX5_dayOn 313 = .ok (.iload_n 3, 1) := by decide +kernel
theorem dX5_dayOn_314 : decode cX5_dayOn 314 = .ok (.aload_n 0, 1) := by decide +kernel
theorem dX5_dayOn_315 : decode cX5_dayOn 315 = .ok (.getfield 32, 3) := by decide +kernel
theorem dX5_dayOn_318 : decode cX5_dayOn 318 = .ok (.if_icmp .ge 33, 3) := by decide +kernel
theorem dX5_dayOn_321 : decode cX5_dayOn 321 = .ok (.aload_n 0, 1) := by decide +kernel
theorem dX5_dayOn_322 : decode cX5_dayOn 322 = .ok (.iload_n 3, 1) := by decide +kernel
theorem dX5_dayOn_323 : decode cX5_dayOn 323 = .ok (.iconst 5, 1) := by decide +kernel
theorem dX5_dayOn_324 : decode cX5_dayOn 324 = .ok (.bipush 10, 2) := by decide +kernel
theorem dX5_dayOn_326 : decode cX5_dayOn 326 = .ok (.aload_n 0, 1) := by decide +kernel
theorem dX5_dayOn_327 : decode cX5_dayOn 327 = .ok (.iload_n 3, 1) := by decide +kernel
theorem dX5_dayOn_328 : decode cX5_dayOn 328 = .ok (.iconst 5, 1) := by decide +kernel
theorem dX5_dayOn_329 : decode cX5_dayOn 329 = .ok (.invokevirtual 56, 3) := by decide +kernel
theorem dX5_dayOn_332 : decode cX5_dayOn 332 = .ok (.aload_n 0, 1) := by decide +kernel
theorem dX5_dayOn_333 : decode cX5_dayOn 333 = .ok (.getfield 13, 3) := by decide +kernel
theorem dX5_dayOn_336 : decode cX5_dayOn 336 = .ok (.iload_n 2, 1) := by decide +kernel
theorem dX5_dayOn_337 : decode cX5_dayOn 337 = .ok (.iaload, 1) := by decide +kernel
theorem dX5_dayOn_338 : decode cX5_dayOn 338 = .ok (.iadd, 1) := by decide +kernel
theorem dX5_dayOn_339 : decode cX5_dayOn 339 = .ok (.invokestatic 70, 3) := by decide +kernel
theorem dX5_dayOn_342 : decode cX5_dayOn 342 = .ok (.invokevirtual 60, 3) := by decide +kernel
theorem dX5_dayOn_345 : decode cX5_dayOn 345 = .ok (.iinc 3 1, 3) := by decide +kernel
theorem dX5_dayOn_348 : decode cX5_dayOn 348 = .ok (.goto (-35), 3) := by decide +kernel
theorem dX5_dayOn_351 : decode cX5_dayOn 351 = .ok (.aload_n 0, 1) := by decide +kernel
theorem dX5_dayOn_352 : decode cX5_dayOn 352 = .ok (.getfield 25, 3) := by decide +kernel
theorem dX5_dayOn_355 : decode cX5_dayOn 355 = .ok (.iconst 0, 1) := by decide +kernel
theorem dX5_dayOn_356 : decode cX5_dayOn 356 = .ok (.dup2, 1) := by decide +kernel
theorem dX5_dayOn_357 : decode cX5_dayOn 357 = .ok (.iaload, 1) := by decide +kernel
theorem dX5_dayOn_358 : decode cX5_dayOn 358 = .ok (.iconst 1, 1) := by decide +kernel
theorem dX5_dayOn_359 : decode cX5_dayOn 359 = .ok (.iadd, 1) := by decide +kernel
theorem dX5_dayOn_360 : decode cX5_dayOn 360 = .ok (.iastore, 1) := by decide +kernel
theorem dX5_dayOn_361 : decode cX5_dayOn 361 = .ok (.iload_n 1, 1) := by decide +kernel
theorem dX5_dayOn_362 : decode cX5_dayOn 362 = .ok (.ireturn, 1) := by decide +kernel
theorem dX5_daysOn_0 : decode cX5_daysOn 0 = .ok (.iconst 0, 1) := by decide +kernel
theorem dX5_daysOn_1 : decode cX5_daysOn 1 = .ok (.istore_n 2, 1) := by decide +kernel
theorem dX5_daysOn_2 : decode cX5_daysOn 2 = .ok (.iconst 0, 1) := by decide +kernel
theorem dX5_daysOn_3 : decode cX5_daysOn 3 = .ok (.istore_n 3, 1) := by decide +kernel
theorem dX5_daysOn_4 : decode cX5_daysOn 4 = .ok (.iload_n 3, 1) := by decide +kernel
theorem dX5_daysOn_5 : decode cX5_daysOn 5 = .ok (.iload_n 1, 1) := by decide +kernel
theorem dX5_daysOn_6 : decode cX5_daysOn 6 = .ok (.if_icmp .ge 16, 3) := by decide +kernel
theorem dX5_daysOn_9 : decode cX5_daysOn 9 = .ok (.iload_n 2, 1) := by decide +kernel
theorem dX5_daysOn_10 : decode cX5_daysOn 10 = .ok (.aload_n 0, 1) := by decide +kernel
theorem dX5_daysOn_11 : decode cX5_daysOn 11 = .ok (.invokevirtual 88, 3) := by decide +kernel
theorem dX5_daysOn_14 : decode cX5_daysOn 14 = .ok (.iadd, 1) := by decide +kernel
theorem dX5_daysOn_15 : decode cX5_daysOn 15 = .ok (.istore_n 2, 1) := by decide +kernel
theorem dX5_daysOn_16 : decode cX5_daysOn 16 = .ok (.iinc 3 1, 3) := by decide +kernel
theorem dX5_daysOn_19 : decode cX5_daysOn 19 = .ok (.goto (-15), 3) := by decide +kernel
theorem dX5_daysOn_22 : decode cX5_daysOn 22 = .ok (.iload_n 2, 1) := by decide +kernel
theorem dX5_daysOn_23 : decode cX5_daysOn 23 = .ok (.ireturn, 1) := by decide +kernel
theorem dX5_pass_0 : decode cX5_pass 0 = .ok (.aload_n 0, 1) := by decide +kernel
theorem dX5_pass_1 : decode cX5_pass 1 = .ok (.iconst 0, 1) := by decide +kernel
theorem dX5_pass_2 : decode cX5_pass 2 = .ok (.putfield 28, 3) := by decide +kernel
theorem dX5_pass_5 : decode cX5_pass 5 = .ok (.iload_n 1, 1) := by decide +kernel
theorem dX5_pass_6 : decode cX5_pass 6 = .ok (.iconst 1, 1) := by decide +kernel
theorem dX5_pass_7 : decode cX5_pass 7 = .ok (.bipush 100, 2) := by decide +kernel
theorem dX5_pass_9 : decode cX5_pass 9 = .ok (.invokestatic 35, 3) := by decide +kernel
theorem dX5_pass_12 : decode cX5_pass 12 = .ok (.ifCond .eq 11, 3) := by decide +kernel
theorem dX5_pass_15 : decode cX5_pass 15 = .ok (.aload_n 0, 1) := by decide +kernel
theorem dX5_pass_16 : decode cX5_pass 16 = .ok (.iload_n 1, 1) := by decide +kernel
theorem dX5_pass_17 : decode cX5_pass 17 = .ok (.invokevirtual 92, 3) := by decide +kernel
theorem dX5_pass_20 : decode cX5_pass 20 = .ok (.goto 8, 3) := by decide +kernel
theorem dX5_pass_23 : decode cX5_pass 23 = .ok (.aload_n 0, 1) := by decide +kernel
theorem dX5_pass_24 : decode cX5_pass 24 = .ok (.iconst 1, 1) := by decide +kernel
theorem dX5_pass_25 : decode cX5_pass 25 = .ok (.invokevirtual 42, 3) := by decide +kernel
theorem dX5_pass_28 : decode cX5_pass 28 = .ok (.ireturn, 1) := by decide +kernel
theorem dX5_all_0 : decode cX5_all 0 = .ok (.iconst 0, 1) := by decide +kernel
theorem dX5_all_1 : decode cX5_all 1 = .ok (.istore_n 2, 1) := by decide +kernel
theorem dX5_all_2 : decode cX5_all 2 = .ok (.iconst 0, 1) := by decide +kernel
theorem dX5_all_3 : decode cX5_all 3 = .ok (.istore_n 3, 1) := by decide +kernel
theorem dX5_all_4 : decode cX5_all 4 = .ok (.iload_n 3, 1) := by decide +kernel
theorem dX5_all_5 : decode cX5_all 5 = .ok (.aload_n 0, 1) := by decide +kernel
theorem dX5_all_6 : decode cX5_all 6 = .ok (.getfield 32, 3) := by decide +kernel
theorem dX5_all_9 : decode cX5_all 9 = .ok (.if_icmp .ge 18, 3) := by decide +kernel
theorem dX5_all_12 : decode cX5_all 12 = .ok (.iload_n 2, 1) := by decide +kernel
theorem dX5_all_13 : decode cX5_all 13 = .ok (.aload_n 0, 1) := by decide +kernel
theorem dX5_all_14 : decode cX5_all 14 = .ok (.iload_n 3, 1) := by decide +kernel
theorem dX5_all_15 : decode cX5_all 15 = .ok (.iload_n 1, 1) := by decide +kernel
theorem dX5_all_16 : decode cX5_all 16 = .ok (.invokevirtual 56, 3) := by decide +kernel
theorem dX5_all_19 : decode cX5_all 19 = .ok (.iadd, 1) := by decide +kernel
theorem dX5_all_20 : decode cX5_all 20 = .ok (.istore_n 2, 1) := by decide +kernel
theorem dX5_all_21 : decode cX5_all 21 = .ok (.iinc 3 1, 3) := by decide +kernel
theorem dX5_all_24 : decode cX5_all 24 = .ok (.goto (-20), 3) := by decide +kernel
theorem dX5_all_27 : decode cX5_all 27 = .ok (.iload_n 2, 1) := by decide +kernel
theorem dX5_all_28 : decode cX5_all 28 = .ok (.ireturn, 1) := by decide +kernel
theorem dX5_counted_0 : decode cX5_counted 0 = .ok (.iconst 0, 1) := by decide +kernel
theorem dX5_counted_1 : decode cX5_counted 1 = .ok (.istore_n 2, 1) := by decide +kernel
theorem dX5_counted_2 : decode cX5_counted 2 = .ok (.iload_n 1, 1) := by decide +kernel
theorem dX5_counted_3 : decode cX5_counted 3 = .ok (.tableswitch 106 0 9 #[53, 60, 65, 70, 76, 83, 83, 83, 92, 99], 53) := by decide +kernel
theorem dX5_counted_56 : decode cX5_counted 56 = .ok (.aload_n 0, 1) := by decide +kernel
theorem dX5_counted_57 : decode cX5_counted 57 = .ok (.getfield 25, 3) := by decide +kernel
theorem dX5_counted_60 : decode cX5_counted 60 = .ok (.iconst 0, 1) := by decide +kernel
theorem dX5_counted_61 : decode cX5_counted 61 = .ok (.iaload, 1) := by decide +kernel
theorem dX5_counted_62 : decode cX5_counted 62 = .ok (.ireturn, 1) := by decide +kernel
theorem dX5_counted_63 : decode cX5_counted 63 = .ok (.aload_n 0, 1) := by decide +kernel
theorem dX5_counted_64 : decode cX5_counted 64 = .ok (.getfield 32, 3) := by decide +kernel
theorem dX5_counted_67 : decode cX5_counted 67 = .ok (.ireturn, 1) := by decide +kernel
theorem dX5_counted_68 : decode cX5_counted 68 = .ok (.aload_n 0, 1) := by decide +kernel
theorem dX5_counted_69 : decode cX5_counted 69 = .ok (.getfield 39, 3) := by decide +kernel
theorem dX5_counted_72 : decode cX5_counted 72 = .ok (.ireturn, 1) := by decide +kernel
theorem dX5_counted_73 : decode cX5_counted 73 = .ok (.aload_n 0, 1) := by decide +kernel
theorem dX5_counted_74 : decode cX5_counted 74 = .ok (.iconst 2, 1) := by decide +kernel
theorem dX5_counted_75 : decode cX5_counted 75 = .ok (.invokevirtual 95, 3) := by decide +kernel
theorem dX5_counted_78 : decode cX5_counted 78 = .ok (.ireturn, 1) := by decide +kernel
theorem dX5_counted_79 : decode cX5_counted 79 = .ok (.aload_n 0, 1) := by decide +kernel
theorem dX5_counted_80 : decode cX5_counted 80 = .ok (.bipush 7, 2) := by decide +kernel
theorem dX5_counted_82 : decode cX5_counted 82 = .ok (.invokevirtual 95, 3) := by decide +kernel
theorem dX5_counted_85 : decode cX5_counted 85 = .ok (.ireturn, 1) := by decide +kernel
theorem dX5_counted_86 : decode cX5_counted 86 = .ok (.aload_n 0, 1) := by decide +kernel
theorem dX5_counted_87 : decode cX5_counted 87 = .ok (.getfield 25, 3) := by decide +kernel
theorem dX5_counted_90 : decode cX5_counted 90 = .ok (.iload_n 1, 1) := by decide +kernel
theorem dX5_counted_91 : decode cX5_counted 91 = .ok (.iconst 4, 1) := by decide +kernel
theorem dX5_counted_92 : decode cX5_counted 92 = .ok (.isub, 1) := by decide +kernel
theorem dX5_counted_93 : decode cX5_counted 93 = .ok (.iaload, 1) := by decide +kernel
theorem dX5_counted_94 : decode cX5_counted 94 = .ok (.ireturn, 1) := by decide +kernel
theorem dX5_counted_95 : decode cX5_counted 95 = .ok (.aload_n 0, 1) := by decide +kernel
theorem dX5_counted_96 : decode cX5_counted 96 = .ok (.bipush 8, 2) := by decide +kernel
theorem dX5_counted_98 : decode cX5_counted 98 = .ok (.invokevirtual 95, 3) := by decide +kernel
theorem dX5_counted_101 : decode cX5_counted 101 = .ok (.ireturn, 1) := by decide +kernel
theorem dX5_counted_102 : decode cX5_counted 102 = .ok (.aload_n 0, 1) := by decide +kernel
theorem dX5_counted_103 : decode cX5_counted 103 = .ok (.getfield 25, 3) := by decide +kernel
theorem dX5_counted_106 : decode cX5_counted 106 = .ok (.iconst 4, 1) := by decide +kernel
theorem dX5_counted_107 : decode cX5_counted 107 = .ok (.iaload, 1) := by decide +kernel
theorem dX5_counted_108 : decode cX5_counted 108 = .ok (.ireturn, 1) := by decide +kernel
theorem dX5_counted_109 : decode cX5_counted 109 = .ok (.iconst 0, 1) := by decide +kernel
theorem dX5_counted_110 : decode cX5_counted 110 = .ok (.istore_n 3, 1) := by decide +kernel
theorem dX5_counted_111 : decode cX5_counted 111 = .ok (.iload_n 3, 1) := by decide +kernel
theorem dX5_counted_112 : decode cX5_counted 112 = .ok (.aload_n 0, 1) := by decide +kernel
theorem dX5_counted_113 : decode cX5_counted 113 = .ok (.getfield 39, 3) := by decide +kernel
theorem dX5_counted_116 : decode cX5_counted 116 = .ok (.if_icmp .ge 18, 3) := by decide +kernel
theorem dX5_counted_119 : decode cX5_counted 119 = .ok (.iload_n 2, 1) := by decide +kernel
theorem dX5_counted_120 : decode cX5_counted 120 = .ok (.aload_n 0, 1) := by decide +kernel
theorem dX5_counted_121 : decode cX5_counted 121 = .ok (.iload_n 3, 1) := by decide +kernel
theorem dX5_counted_122 : decode cX5_counted 122 = .ok (.iconst 3, 1) := by decide +kernel
theorem dX5_counted_123 : decode cX5_counted 123 = .ok (.invokevirtual 67, 3) := by decide +kernel
theorem dX5_counted_126 : decode cX5_counted 126 = .ok (.iadd, 1) := by decide +kernel
theorem dX5_counted_127 : decode cX5_counted 127 = .ok (.istore_n 2, 1) := by decide +kernel
theorem dX5_counted_128 : decode cX5_counted 128 = .ok (.iinc 3 1, 3) := by decide +kernel
theorem dX5_counted_131 : decode cX5_counted 131 = .ok (.goto (-20), 3) := by decide +kernel
theorem dX5_counted_134 : decode cX5_counted 134 = .ok (.iload_n 2, 1) := by decide +kernel
theorem dX5_counted_135 : decode cX5_counted 135 = .ok (.ireturn, 1) := by decide +kernel
theorem dX5_count_0 : decode cX5_count 0 = .ok (.aload_n 0, 1) := by decide +kernel
theorem dX5_count_1 : decode cX5_count 1 = .ok (.iconst 0, 1) := by decide +kernel
theorem dX5_count_2 : decode cX5_count 2 = .ok (.putfield 28, 3) := by decide +kernel
theorem dX5_count_5 : decode cX5_count 5 = .ok (.iload_n 1, 1) := by decide +kernel
theorem dX5_count_6 : decode cX5_count 6 = .ok (.iconst 0, 1) := by decide +kernel
theorem dX5_count_7 : decode cX5_count 7 = .ok (.bipush 10, 2) := by decide +kernel
theorem dX5_count_9 : decode cX5_count 9 = .ok (.invokestatic 35, 3) := by decide +kernel
theorem dX5_count_12 : decode cX5_count 12 = .ok (.ifCond .eq 11, 3) := by decide +kernel
theorem dX5_count_15 : decode cX5_count 15 = .ok (.aload_n 0, 1) := by decide +kernel
theorem dX5_count_16 : decode cX5_count 16 = .ok (.iload_n 1, 1) := by decide +kernel
theorem dX5_count_17 : decode cX5_count 17 = .ok (.invokevirtual 98, 3) := by decide +kernel
theorem dX5_count_20 : decode cX5_count 20 = .ok (.goto 8, 3) := by decide +kernel
theorem dX5_count_23 : decode cX5_count 23 = .ok (.aload_n 0, 1) := by decide +kernel
theorem dX5_count_24 : decode cX5_count 24 = .ok (.iconst 1, 1) := by decide +kernel
theorem dX5_count_25 : decode cX5_count 25 = .ok (.invokevirtual 42, 3) := by decide +kernel
theorem dX5_count_28 : decode cX5_count 28 = .ok (.ireturn, 1) := by decide +kernel
theorem dX5_kept_0 : decode cX5_kept 0 = .ok (.iconst 4, 1) := by decide +kernel
theorem dX5_kept_1 : decode cX5_kept 1 = .ok (.anewarray 101, 3) := by decide +kernel
theorem dX5_kept_4 : decode cX5_kept 4 = .ok (.dup, 1) := by decide +kernel
theorem dX5_kept_5 : decode cX5_kept 5 = .ok (.iconst 0, 1) := by decide +kernel
theorem dX5_kept_6 : decode cX5_kept 6 = .ok (.aload_n 0, 1) := by decide +kernel
theorem dX5_kept_7 : decode cX5_kept 7 = .ok (.getfield 16, 3) := by decide +kernel
theorem dX5_kept_10 : decode cX5_kept 10 = .ok (.invokevirtual 102, 3) := by decide +kernel
theorem dX5_kept_13 : decode cX5_kept 13 = .ok (.checkcast 101, 3) := by decide +kernel
theorem dX5_kept_16 : decode cX5_kept 16 = .ok (.aastore, 1) := by decide +kernel
theorem dX5_kept_17 : decode cX5_kept 17 = .ok (.dup, 1) := by decide +kernel
theorem dX5_kept_18 : decode cX5_kept 18 = .ok (.iconst 1, 1) := by decide +kernel
theorem dX5_kept_19 : decode cX5_kept 19 = .ok (.aload_n 0, 1) := by decide +kernel
theorem dX5_kept_20 : decode cX5_kept 20 = .ok (.getfield 19, 3) := by decide +kernel
theorem dX5_kept_23 : decode cX5_kept 23 = .ok (.invokevirtual 102, 3) := by decide +kernel
theorem dX5_kept_26 : decode cX5_kept 26 = .ok (.checkcast 101, 3) := by decide +kernel
theorem dX5_kept_29 : decode cX5_kept 29 = .ok (.aastore, 1) := by decide +kernel
theorem dX5_kept_30 : decode cX5_kept 30 = .ok (.dup, 1) := by decide +kernel
theorem dX5_kept_31 : decode cX5_kept 31 = .ok (.iconst 2, 1) := by decide +kernel
theorem dX5_kept_32 : decode cX5_kept 32 = .ok (.aload_n 0, 1) := by decide +kernel
theorem dX5_kept_33 : decode cX5_kept 33 = .ok (.getfield 22, 3) := by decide +kernel
theorem dX5_kept_36 : decode cX5_kept 36 = .ok (.invokevirtual 102, 3) := by decide +kernel
theorem dX5_kept_39 : decode cX5_kept 39 = .ok (.checkcast 101, 3) := by decide +kernel
theorem dX5_kept_42 : decode cX5_kept 42 = .ok (.aastore, 1) := by decide +kernel
theorem dX5_kept_43 : decode cX5_kept 43 = .ok (.dup, 1) := by decide +kernel
theorem dX5_kept_44 : decode cX5_kept 44 = .ok (.iconst 3, 1) := by decide +kernel
theorem dX5_kept_45 : decode cX5_kept 45 = .ok (.aload_n 0, 1) := by decide +kernel
theorem dX5_kept_46 : decode cX5_kept 46 = .ok (.getfield 25, 3) := by decide +kernel
theorem dX5_kept_49 : decode cX5_kept 49 = .ok (.invokevirtual 102, 3) := by decide +kernel
theorem dX5_kept_52 : decode cX5_kept 52 = .ok (.checkcast 101, 3) := by decide +kernel
theorem dX5_kept_55 : decode cX5_kept 55 = .ok (.aastore, 1) := by decide +kernel
theorem dX5_kept_56 : decode cX5_kept 56 = .ok (.areturn, 1) := by decide +kernel
theorem dX5_bringBack_0 : decode cX5_bringBack 0 = .ok (.iconst 4, 1) := by decide +kernel
theorem dX5_bringBack_1 : decode cX5_bringBack 1 = .ok (.anewarray 101, 3) := by decide +kernel
theorem dX5_bringBack_4 : decode cX5_bringBack 4 = .ok (.dup, 1) := by decide +kernel
theorem dX5_bringBack_5 : decode cX5_bringBack 5 = .ok (.iconst 0, 1) := by decide +kernel
theorem dX5_bringBack_6 : decode cX5_bringBack 6 = .ok (.aload_n 0, 1) := by decide +kernel
theorem dX5_bringBack_7 : decode cX5_bringBack 7 = .ok (.getfield 16, 3) := by decide +kernel
theorem dX5_bringBack_10 : decode cX5_bringBack 10 = .ok (.aastore, 1) := by decide +kernel
theorem dX5_bringBack_11 : decode cX5_bringBack 11 = .ok (.dup, 1) := by decide +kernel
theorem dX5_bringBack_12 : decode cX5_bringBack 12 = .ok (.iconst 1, 1) := by decide +kernel
theorem dX5_bringBack_13 : decode cX5_bringBack 13 = .ok (.aload_n 0, 1) := by decide +kernel
theorem dX5_bringBack_14 : decode cX5_bringBack 14 = .ok (.getfield 19, 3) := by decide +kernel
theorem dX5_bringBack_17 : decode cX5_bringBack 17 = .ok (.aastore, 1) := by decide +kernel
theorem dX5_bringBack_18 : decode cX5_bringBack 18 = .ok (.dup, 1) := by decide +kernel
theorem dX5_bringBack_19 : decode cX5_bringBack 19 = .ok (.iconst 2, 1) := by decide +kernel
theorem dX5_bringBack_20 : decode cX5_bringBack 20 = .ok (.aload_n 0, 1) := by decide +kernel
theorem dX5_bringBack_21 : decode cX5_bringBack 21 = .ok (.getfield 22, 3) := by decide +kernel
theorem dX5_bringBack_24 : decode cX5_bringBack 24 = .ok (.aastore, 1) := by decide +kernel
theorem dX5_bringBack_25 : decode cX5_bringBack 25 = .ok (.dup, 1) := by decide +kernel
theorem dX5_bringBack_26 : decode cX5_bringBack 26 = .ok (.iconst 3, 1) := by decide +kernel
theorem dX5_bringBack_27 : decode cX5_bringBack 27 = .ok (.aload_n 0, 1) := by decide +kernel
theorem dX5_bringBack_28 : decode cX5_bringBack 28 = .ok (.getfield 25, 3) := by decide +kernel
theorem dX5_bringBack_31 : decode cX5_bringBack 31 = .ok (.aastore, 1) := by decide +kernel
theorem dX5_bringBack_32 : decode cX5_bringBack 32 = .ok (.astore_n 2, 1) := by decide +kernel
theorem dX5_bringBack_33 : decode cX5_bringBack 33 = .ok (.iconst 0, 1) := by decide +kernel
theorem dX5_bringBack_34 : decode cX5_bringBack 34 = .ok (.istore_n 3, 1) := by decide +kernel
theorem dX5_bringBack_35 : decode cX5_bringBack 35 = .ok (.iload_n 3, 1) := by decide +kernel
theorem dX5_bringBack_36 : decode cX5_bringBack 36 = .ok (.aload_n 2, 1) := by decide +kernel
theorem dX5_bringBack_37 : decode cX5_bringBack 37 = .ok (.arraylength, 1) := by decide +kernel
theorem dX5_bringBack_38 : decode cX5_bringBack 38 = .ok (.if_icmp .ge 24, 3) := by decide +kernel
theorem dX5_bringBack_41 : decode cX5_bringBack 41 = .ok (.aload_n 1, 1) := by decide +kernel
theorem dX5_bringBack_42 : decode cX5_bringBack 42 = .ok (.iload_n 3, 1) := by decide +kernel
theorem dX5_bringBack_43 : decode cX5_bringBack 43 = .ok (.aaload, 1) := by decide +kernel
theorem dX5_bringBack_44 : decode cX5_bringBack 44 = .ok (.iconst 0, 1) := by decide +kernel
theorem dX5_bringBack_45 : decode cX5_bringBack 45 = .ok (.aload_n 2, 1) := by decide +kernel
theorem dX5_bringBack_46 : decode cX5_bringBack 46 = .ok (.iload_n 3, 1) := by decide +kernel
theorem dX5_bringBack_47 : decode cX5_bringBack 47 = .ok (.aaload, 1) := by decide +kernel
theorem dX5_bringBack_48 : decode cX5_bringBack 48 = .ok (.iconst 0, 1) := by decide +kernel
theorem dX5_bringBack_49 : decode cX5_bringBack 49 = .ok (.aload_n 2, 1) := by decide +kernel
theorem dX5_bringBack_50 : decode cX5_bringBack 50 = .ok (.iload_n 3, 1) := by decide +kernel
theorem dX5_bringBack_51 : decode cX5_bringBack 51 = .ok (.aaload, 1) := by decide +kernel
theorem dX5_bringBack_52 : decode cX5_bringBack 52 = .ok (.arraylength, 1) := by decide +kernel
theorem dX5_bringBack_53 : decode cX5_bringBack 53 = .ok (.invokestatic 46, 3) := by decide +kernel
theorem dX5_bringBack_56 : decode cX5_bringBack 56 = .ok (.iinc 3 1, 3) := by decide +kernel
theorem dX5_bringBack_59 : decode cX5_bringBack 59 = .ok (.goto (-24), 3) := by decide +kernel
theorem dX5_bringBack_62 : decode cX5_bringBack 62 = .ok (.return_, 1) := by decide +kernel
theorem dX5_foresee_0 : decode cX5_foresee 0 = .ok (.aload_n 0, 1) := by decide +kernel
theorem dX5_foresee_1 : decode cX5_foresee 1 = .ok (.iconst 0, 1) := by decide +kernel
theorem dX5_foresee_2 : decode cX5_foresee 2 = .ok (.putfield 28, 3) := by decide +kernel
theorem dX5_foresee_5 : decode cX5_foresee 5 = .ok (.iload_n 1, 1) := by decide +kernel
theorem dX5_foresee_6 : decode cX5_foresee 6 = .ok (.iconst 1, 1) := by decide +kernel
theorem dX5_foresee_7 : decode cX5_foresee 7 = .ok (.bipush 100, 2) := by decide +kernel
theorem dX5_foresee_9 : decode cX5_foresee 9 = .ok (.invokestatic 35, 3) := by decide +kernel
theorem dX5_foresee_12 : decode cX5_foresee 12 = .ok (.ifCond .ne 9, 3) := by decide +kernel
theorem dX5_foresee_15 : decode cX5_foresee 15 = .ok (.aload_n 0, 1) := by decide +kernel
theorem dX5_foresee_16 : decode cX5_foresee 16 = .ok (.iconst 1, 1) := by decide +kernel
theorem dX5_foresee_17 : decode cX5_foresee 17 = .ok (.invokevirtual 42, 3) := by decide +kernel
theorem dX5_foresee_20 : decode cX5_foresee 20 = .ok (.ireturn, 1) := by decide +kernel
theorem dX5_foresee_21 : decode cX5_foresee 21 = .ok (.iload_n 2, 1) := by decide +kernel
theorem dX5_foresee_22 : decode cX5_foresee 22 = .ok (.iconst 0, 1) := by decide +kernel
theorem dX5_foresee_23 : decode cX5_foresee 23 = .ok (.iconst 2, 1) := by decide +kernel
theorem dX5_foresee_24 : decode cX5_foresee 24 = .ok (.invokestatic 35, 3) := by decide +kernel
theorem dX5_foresee_27 : decode cX5_foresee 27 = .ok (.ifCond .ne 9, 3) := by decide +kernel
theorem dX5_foresee_30 : decode cX5_foresee 30 = .ok (.aload_n 0, 1) := by decide +kernel
theorem dX5_foresee_31 : decode cX5_foresee 31 = .ok (.iconst 2, 1) := by decide +kernel
theorem dX5_foresee_32 : decode cX5_foresee 32 = .ok (.invokevirtual 42, 3) := by decide +kernel
theorem dX5_foresee_35 : decode cX5_foresee 35 = .ok (.ireturn, 1) := by decide +kernel
theorem dX5_foresee_36 : decode cX5_foresee 36 = .ok (.aload_n 0, 1) := by decide +kernel
theorem dX5_foresee_37 : decode cX5_foresee 37 = .ok (.invokevirtual 106, 3) := by decide +kernel
theorem dX5_foresee_40 : decode cX5_foresee 40 = .ok (.astore_n 3, 1) := by decide +kernel
theorem dX5_foresee_41 : decode cX5_foresee 41 = .ok (.aload_n 0, 1) := by decide +kernel
theorem dX5_foresee_42 : decode cX5_foresee 42 = .ok (.getfield 25, 3) := by decide +kernel
theorem dX5_foresee_45 : decode cX5_foresee 45 = .ok (.iconst 2, 1) := by decide +kernel
theorem dX5_foresee_46 : decode cX5_foresee 46 = .ok (.iaload, 1) := by decide +kernel
theorem dX5_foresee_47 : decode cX5_foresee 47 = .ok (.istore 4, 2) := by decide +kernel
theorem dX5_foresee_49 : decode cX5_foresee 49 = .ok (.aload_n 0, 1) := by decide +kernel
theorem dX5_foresee_50 : decode cX5_foresee 50 = .ok (.iload_n 1, 1) := by decide +kernel
theorem dX5_foresee_51 : decode cX5_foresee 51 = .ok (.invokevirtual 92, 3) := by decide +kernel
theorem dX5_foresee_54 : decode cX5_foresee 54 = .ok (.istore 5, 2) := by decide +kernel
theorem dX5_foresee_56 : decode cX5_foresee 56 = .ok (.iload_n 2, 1) := by decide +kernel
theorem dX5_foresee_57 : decode cX5_foresee 57 = .ok (.ifCond .ne 8, 3) := by decide +kernel
theorem dX5_foresee_60 : decode cX5_foresee 60 = .ok (.iload 5, 2) := by decide +kernel
theorem dX5_foresee_62 : decode cX5_foresee 62 = .ok (.goto 25, 3) := by decide +kernel
theorem dX5_foresee_65 : decode cX5_foresee 65 = .ok (.iload_n 2, 1) := by decide +kernel
theorem dX5_foresee_66 : decode cX5_foresee 66 = .ok (.iconst 1, 1) := by decide +kernel
theorem dX5_foresee_67 : decode cX5_foresee 67 = .ok (.if_icmp .ne 11, 3) := by decide +kernel
theorem dX5_foresee_70 : decode cX5_foresee 70 = .ok (.aload_n 0, 1) := by decide +kernel
theorem dX5_foresee_71 : decode cX5_foresee 71 = .ok (.iconst 2, 1) := by decide +kernel
theorem dX5_foresee_72 : decode cX5_foresee 72 = .ok (.invokevirtual 95, 3) := by decide +kernel
theorem dX5_foresee_75 : decode cX5_foresee 75 = .ok (.goto 12, 3) := by decide +kernel
theorem dX5_foresee_78 : decode cX5_foresee 78 = .ok (.aload_n 0, 1) := by decide +kernel
theorem dX5_foresee_79 : decode cX5_foresee 79 = .ok (.getfield 25, 3) := by decide +kernel
theorem dX5_foresee_82 : decode cX5_foresee 82 = .ok (.iconst 2, 1) := by decide +kernel
theorem dX5_foresee_83 : decode cX5_foresee 83 = .ok (.iaload, 1) := by decide +kernel
theorem dX5_foresee_84 : decode cX5_foresee 84 = .ok (.iload 4, 2) := by decide +kernel
theorem dX5_foresee_86 : decode cX5_foresee 86 = .ok (.isub, 1) := by decide +kernel
theorem dX5_foresee_87 : decode cX5_foresee 87 = .ok (.istore 6, 2) := by decide +kernel
theorem dX5_foresee_89 : decode cX5_foresee 89 = .ok (.aload_n 0, 1) := by decide +kernel
theorem dX5_foresee_90 : decode cX5_foresee 90 = .ok (.aload_n 3, 1) := by decide +kernel
theorem dX5_foresee_91 : decode cX5_foresee 91 = .ok (.invokevirtual 110, 3) := by decide +kernel
theorem dX5_foresee_94 : decode cX5_foresee 94 = .ok (.iload 6, 2) := by decide +kernel
theorem dX5_foresee_96 : decode cX5_foresee 96 = .ok (.ireturn, 1) := by decide +kernel
theorem dX5_lasts_0 : decode cX5_lasts 0 = .ok (.aload_n 0, 1) := by decide +kernel
theorem dX5_lasts_1 : decode cX5_lasts 1 = .ok (.iconst 0, 1) := by decide +kernel
theorem dX5_lasts_2 : decode cX5_lasts 2 = .ok (.putfield 28, 3) := by decide +kernel
theorem dX5_lasts_5 : decode cX5_lasts 5 = .ok (.aload_n 0, 1) := by decide +kernel
theorem dX5_lasts_6 : decode cX5_lasts 6 = .ok (.iload_n 1, 1) := by decide +kernel
theorem dX5_lasts_7 : decode cX5_lasts 7 = .ok (.invokevirtual 52, 3) := by decide +kernel
theorem dX5_lasts_10 : decode cX5_lasts 10 = .ok (.ifCond .ne 9, 3) := by decide +kernel
theorem dX5_lasts_13 : decode cX5_lasts 13 = .ok (.aload_n 0, 1) := by decide +kernel
theorem dX5_lasts_14 : decode cX5_lasts 14 = .ok (.iconst 1, 1) := by decide +kernel
theorem dX5_lasts_15 : decode cX5_lasts 15 = .ok (.invokevirtual 42, 3) := by decide +kernel
theorem dX5_lasts_18 : decode cX5_lasts 18 = .ok (.ireturn, 1) := by decide +kernel
theorem dX5_lasts_19 : decode cX5_lasts 19 = .ok (.aload_n 0, 1) := by decide +kernel
theorem dX5_lasts_20 : decode cX5_lasts 20 = .ok (.invokevirtual 106, 3) := by decide +kernel
theorem dX5_lasts_23 : decode cX5_lasts 23 = .ok (.astore_n 2, 1) := by decide +kernel
theorem dX5_lasts_24 : decode cX5_lasts 24 = .ok (.aload_n 0, 1) := by decide +kernel
theorem dX5_lasts_25 : decode cX5_lasts 25 = .ok (.iload_n 1, 1) := by decide +kernel
theorem dX5_lasts_26 : decode cX5_lasts 26 = .ok (.bipush 7, 2) := by decide +kernel
theorem dX5_lasts_28 : decode cX5_lasts 28 = .ok (.invokevirtual 56, 3) := by decide +kernel
theorem dX5_lasts_31 : decode cX5_lasts 31 = .ok (.istore_n 3, 1) := by decide +kernel
theorem dX5_lasts_32 : decode cX5_lasts 32 = .ok (.iconst 0, 1) := by decide +kernel
theorem dX5_lasts_33 : decode cX5_lasts 33 = .ok (.istore 4, 2) := by decide +kernel
theorem dX5_lasts_35 : decode cX5_lasts 35 = .ok (.iload 4, 2) := by decide +kernel
theorem dX5_lasts_37 : decode cX5_lasts 37 = .ok (.sipush 200, 3) := by decide +kernel
theorem dX5_lasts_40 : decode cX5_lasts 40 = .ok (.if_icmp .ge 25, 3) := by decide +kernel
theorem dX5_lasts_43 : decode cX5_lasts 43 = .ok (.aload_n 0, 1) := by decide +kernel
theorem dX5_lasts_44 : decode cX5_lasts 44 = .ok (.iload_n 1, 1) := by decide +kernel
theorem dX5_lasts_45 : decode cX5_lasts 45 = .ok (.bipush 7, 2) := by decide +kernel
theorem dX5_lasts_47 : decode cX5_lasts 47 = .ok (.invokevirtual 56, 3) := by decide +kernel
theorem dX5_lasts_50 : decode cX5_lasts 50 = .ok (.iload_n 3, 1) := by decide +kernel
theorem dX5_lasts_51 : decode cX5_lasts 51 = .ok (.if_icmp .ne 14, 3) := by decide +kernel
theorem dX5_lasts_54 : decode cX5_lasts 54 = .ok (.aload_n 0, 1) := by decide +kernel
theorem dX5_lasts_55 : decode cX5_lasts 55 = .ok (.invokevirtual 88, 3) := by decide +kernel
theorem dX5_lasts_58 : decode cX5_lasts 58 = .ok (.pop, 1) := by decide +kernel
theorem dX5_lasts_59 : decode cX5_lasts 59 = .ok (.iinc 4 1, 3) := by decide +kernel
theorem dX5_lasts_62 : decode cX5_lasts 62 = .ok (.goto (-27), 3) := by decide +kernel
theorem dX5_lasts_65 : decode cX5_lasts 65 = .ok (.aload_n 0, 1) := by decide +kernel
theorem dX5_lasts_66 : decode cX5_lasts 66 = .ok (.iload_n 1, 1) := by decide +kernel
theorem dX5_lasts_67 : decode cX5_lasts 67 = .ok (.bipush 7, 2) := by decide +kernel
theorem dX5_lasts_69 : decode cX5_lasts 69 = .ok (.invokevirtual 56, 3) := by decide +kernel
theorem dX5_lasts_72 : decode cX5_lasts 72 = .ok (.iload_n 3, 1) := by decide +kernel
theorem dX5_lasts_73 : decode cX5_lasts 73 = .ok (.if_icmp .ne 6, 3) := by decide +kernel
theorem dX5_lasts_76 : decode cX5_lasts 76 = .ok (.iconst (-1), 1) := by decide +kernel
theorem dX5_lasts_77 : decode cX5_lasts 77 = .ok (.istore 4, 2) := by decide +kernel
theorem dX5_lasts_79 : decode cX5_lasts 79 = .ok (.aload_n 0, 1) := by decide +kernel
theorem dX5_lasts_80 : decode cX5_lasts 80 = .ok (.aload_n 2, 1) := by decide +kernel
theorem dX5_lasts_81 : decode cX5_lasts 81 = .ok (.invokevirtual 110, 3) := by decide +kernel
theorem dX5_lasts_84 : decode cX5_lasts 84 = .ok (.iload 4, 2) := by decide +kernel
theorem dX5_lasts_86 : decode cX5_lasts 86 = .ok (.ireturn, 1) := by decide +kernel
theorem dX5_needs_0 : decode cX5_needs 0 = .ok (.aload_n 0, 1) := by decide +kernel
theorem dX5_needs_1 : decode cX5_needs 1 = .ok (.iconst 0, 1) := by decide +kernel
theorem dX5_needs_2 : decode cX5_needs 2 = .ok (.putfield 28, 3) := by decide +kernel
theorem dX5_needs_5 : decode cX5_needs 5 = .ok (.aload_n 0, 1) := by decide +kernel
theorem dX5_needs_6 : decode cX5_needs 6 = .ok (.iload_n 1, 1) := by decide +kernel
theorem dX5_needs_7 : decode cX5_needs 7 = .ok (.invokevirtual 52, 3) := by decide +kernel
theorem dX5_needs_10 : decode cX5_needs 10 = .ok (.ifCond .ne 9, 3) := by decide +kernel
theorem dX5_needs_13 : decode cX5_needs 13 = .ok (.aload_n 0, 1) := by decide +kernel
theorem dX5_needs_14 : decode cX5_needs 14 = .ok (.iconst 1, 1) := by decide +kernel
theorem dX5_needs_15 : decode cX5_needs 15 = .ok (.invokevirtual 42, 3) := by decide +kernel
theorem dX5_needs_18 : decode cX5_needs 18 = .ok (.ireturn, 1) := by decide +kernel
theorem dX5_needs_19 : decode cX5_needs 19 = .ok (.iload_n 2, 1) := by decide +kernel
theorem dX5_needs_20 : decode cX5_needs 20 = .ok (.iconst 1, 1) := by decide +kernel
theorem dX5_needs_21 : decode cX5_needs 21 = .ok (.bipush 60, 2) := by decide +kernel
theorem dX5_needs_23 : decode cX5_needs 23 = .ok (.invokestatic 35, 3) := by decide +kernel
theorem dX5_needs_26 : decode cX5_needs 26 = .ok (.ifCond .ne 9, 3) := by decide +kernel
theorem dX5_needs_29 : decode cX5_needs 29 = .ok (.aload_n 0, 1) := by decide +kernel
theorem dX5_needs_30 : decode cX5_needs 30 = .ok (.iconst 2, 1) := by decide +kernel
theorem dX5_needs_31 : decode cX5_needs 31 = .ok (.invokevirtual 42, 3) := by decide +kernel
theorem dX5_needs_34 : decode cX5_needs 34 = .ok (.ireturn, 1) := by decide +kernel
theorem dX5_needs_35 : decode cX5_needs 35 = .ok (.aload_n 0, 1) := by decide +kernel
theorem dX5_needs_36 : decode cX5_needs 36 = .ok (.invokevirtual 106, 3) := by decide +kernel
theorem dX5_needs_39 : decode cX5_needs 39 = .ok (.astore_n 3, 1) := by decide +kernel
theorem dX5_needs_40 : decode cX5_needs 40 = .ok (.aload_n 0, 1) := by decide +kernel
theorem dX5_needs_41 : decode cX5_needs 41 = .ok (.iload_n 1, 1) := by decide +kernel
theorem dX5_needs_42 : decode cX5_needs 42 = .ok (.bipush 7, 2) := by decide +kernel
theorem dX5_needs_44 : decode cX5_needs 44 = .ok (.invokevirtual 56, 3) := by decide +kernel
theorem dX5_needs_47 : decode cX5_needs 47 = .ok (.istore 4, 2) := by decide +kernel
theorem dX5_needs_49 : decode cX5_needs 49 = .ok (.iconst (-1), 1) := by decide +kernel
theorem dX5_needs_50 : decode cX5_needs 50 = .ok (.istore 5, 2) := by decide +kernel
theorem dX5_needs_52 : decode cX5_needs 52 = .ok (.bipush 10, 2) := by decide +kernel
theorem dX5_needs_54 : decode cX5_needs 54 = .ok (.istore 6, 2) := by decide +kernel
theorem dX5_needs_56 : decode cX5_needs 56 = .ok (.iload 6, 2) := by decide +kernel
theorem dX5_needs_58 : decode cX5_needs 58 = .ok (.sipush 900, 3) := by decide +kernel
theorem dX5_needs_61 : decode cX5_needs 61 = .ok (.if_icmp .gt 67, 3) := by decide +kernel
theorem dX5_needs_64 : decode cX5_needs 64 = .ok (.iload 5, 2) := by decide +kernel
theorem dX5_needs_66 : decode cX5_needs 66 = .ok (.iconst (-1), 1) := by decide +kernel
theorem dX5_needs_67 : decode cX5_needs 67 = .ok (.if_icmp .ne 61, 3) := by decide +kernel
theorem dX5_needs_70 : decode cX5_needs 70 = .ok (.aload_n 0, 1) := by decide +kernel
theorem dX5_needs_71 : decode cX5_needs 71 = .ok (.iload_n 1, 1) := by decide +kernel
theorem dX5_needs_72 : decode cX5_needs 72 = .ok (.iconst 1, 1) := by decide +kernel
theorem dX5_needs_73 : decode cX5_needs 73 = .ok (.iload 6, 2) := by decide +kernel
theorem dX5_needs_75 : decode cX5_needs 75 = .ok (.invokevirtual 60, 3) := by decide +kernel
theorem dX5_needs_78 : decode cX5_needs 78 = .ok (.aload_n 0, 1) := by decide +kernel
theorem dX5_needs_79 : decode cX5_needs 79 = .ok (.iload_n 1, 1) := by decide +kernel
theorem dX5_needs_80 : decode cX5_needs 80 = .ok (.iconst 2, 1) := by decide +kernel
theorem dX5_needs_81 : decode cX5_needs 81 = .ok (.iload 6, 2) := by decide +kernel
theorem dX5_needs_83 : decode cX5_needs 83 = .ok (.aload_n 0, 1) := by decide +kernel
theorem dX5_needs_84 : decode cX5_needs 84 = .ok (.iload_n 1, 1) := by decide +kernel
theorem dX5_needs_85 : decode cX5_needs 85 = .ok (.iconst 2, 1) := by decide +kernel
theorem dX5_needs_86 : decode cX5_needs 86 = .ok (.invokevirtual 56, 3) := by decide +kernel
theorem dX5_needs_89 : decode cX5_needs 89 = .ok (.invokestatic 70, 3) := by decide +kernel
theorem dX5_needs_92 : decode cX5_needs 92 = .ok (.invokevirtual 60, 3) := by decide +kernel
theorem dX5_needs_95 : decode cX5_needs 95 = .ok (.aload_n 0, 1) := by decide +kernel
theorem dX5_needs_96 : decode cX5_needs 96 = .ok (.iload_n 2, 1) := by decide +kernel
theorem dX5_needs_97 : decode cX5_needs 97 = .ok (.invokevirtual 92, 3) := by decide +kernel
theorem dX5_needs_100 : decode cX5_needs 100 = .ok (.pop, 1) := by decide +kernel
theorem dX5_needs_101 : decode cX5_needs 101 = .ok (.aload_n 0, 1) := by decide +kernel
theorem dX5_needs_102 : decode cX5_needs 102 = .ok (.iload_n 1, 1) := by decide +kernel
theorem dX5_needs_103 : decode cX5_needs 103 = .ok (.bipush 7, 2) := by decide +kernel
theorem dX5_needs_105 : decode cX5_needs 105 = .ok (.invokevirtual 56, 3) := by decide +kernel
theorem dX5_needs_108 : decode cX5_needs 108 = .ok (.iload 4, 2) := by decide +kernel
theorem dX5_needs_110 : decode cX5_needs 110 = .ok (.if_icmp .ne 7, 3) := by decide +kernel
theorem dX5_needs_113 : decode cX5_needs 113 = .ok (.iload 6, 2) := by decide +kernel
theorem dX5_needs_115 : decode cX5_needs 115 = .ok (.istore 5, 2) := by decide +kernel
theorem dX5_needs_117 : decode cX5_needs 117 = .ok (.aload_n 0, 1) := by decide +kernel
theorem dX5_needs_118 : decode cX5_needs 118 = .ok (.aload_n 3, 1) := by decide +kernel
theorem dX5_needs_119 : decode cX5_needs 119 = .ok (.invokevirtual 110, 3) := by decide +kernel
theorem dX5_needs_122 : decode cX5_needs 122 = .ok (.iinc 6 10, 3) := by decide +kernel
theorem dX5_needs_125 : decode cX5_needs 125 = .ok (.goto (-69), 3) := by decide +kernel
theorem dX5_needs_128 : decode cX5_needs 128 = .ok (.iload 5, 2) := by decide +kernel
theorem dX5_needs_130 : decode cX5_needs 130 = .ok (.ireturn, 1) := by decide +kernel
theorem dX5_dirty_0 : decode cX5_dirty 0 = .ok (.aload_n 0, 1) := by decide +kernel
theorem dX5_dirty_1 : decode cX5_dirty 1 = .ok (.iconst 0, 1) := by decide +kernel
theorem dX5_dirty_2 : decode cX5_dirty 2 = .ok (.putfield 28, 3) := by decide +kernel
theorem dX5_dirty_5 : decode cX5_dirty 5 = .ok (.iload_n 1, 1) := by decide +kernel
theorem dX5_dirty_6 : decode cX5_dirty 6 = .ok (.iconst 1, 1) := by decide +kernel
theorem dX5_dirty_7 : decode cX5_dirty 7 = .ok (.bipush 60, 2) := by decide +kernel
theorem dX5_dirty_9 : decode cX5_dirty 9 = .ok (.invokestatic 35, 3) := by decide +kernel
theorem dX5_dirty_12 : decode cX5_dirty 12 = .ok (.ifCond .ne 9, 3) := by decide +kernel
theorem dX5_dirty_15 : decode cX5_dirty 15 = .ok (.aload_n 0, 1) := by decide +kernel
theorem dX5_dirty_16 : decode cX5_dirty 16 = .ok (.iconst 1, 1) := by decide +kernel
theorem dX5_dirty_17 : decode cX5_dirty 17 = .ok (.invokevirtual 42, 3) := by decide +kernel
theorem dX5_dirty_20 : decode cX5_dirty 20 = .ok (.ireturn, 1) := by decide +kernel
theorem dX5_dirty_21 : decode cX5_dirty 21 = .ok (.aload_n 0, 1) := by decide +kernel
theorem dX5_dirty_22 : decode cX5_dirty 22 = .ok (.invokevirtual 106, 3) := by decide +kernel
theorem dX5_dirty_25 : decode cX5_dirty 25 = .ok (.astore_n 2, 1) := by decide +kernel
theorem dX5_dirty_26 : decode cX5_dirty 26 = .ok (.iconst (-1), 1) := by decide +kernel
theorem dX5_dirty_27 : decode cX5_dirty 27 = .ok (.istore_n 3, 1) := by decide +kernel
theorem dX5_dirty_28 : decode cX5_dirty 28 = .ok (.aload_n 0, 1) := by decide +kernel
theorem dX5_dirty_29 : decode cX5_dirty 29 = .ok (.iload_n 1, 1) := by decide +kernel
theorem dX5_dirty_30 : decode cX5_dirty 30 = .ok (.invokevirtual 92, 3) := by decide +kernel
theorem dX5_dirty_33 : decode cX5_dirty 33 = .ok (.istore 4, 2) := by decide +kernel
theorem dX5_dirty_35 : decode cX5_dirty 35 = .ok (.aload_n 0, 1) := by decide +kernel
theorem dX5_dirty_36 : decode cX5_dirty 36 = .ok (.aload_n 2, 1) := by decide +kernel
theorem dX5_dirty_37 : decode cX5_dirty 37 = .ok (.invokevirtual 110, 3) := by decide +kernel
theorem dX5_dirty_40 : decode cX5_dirty 40 = .ok (.iconst 0, 1) := by decide +kernel
theorem dX5_dirty_41 : decode cX5_dirty 41 = .ok (.istore 5, 2) := by decide +kernel
theorem dX5_dirty_43 : decode cX5_dirty 43 = .ok (.iload 5, 2) := by decide +kernel
theorem dX5_dirty_45 : decode cX5_dirty 45 = .ok (.aload_n 0, 1) := by decide +kernel
theorem dX5_dirty_46 : decode cX5_dirty 46 = .ok (.getfield 32, 3) := by decide +kernel
theorem dX5_dirty_49 : decode cX5_dirty 49 = .ok (.if_icmp .ge 46, 3) := by decide +kernel
theorem dX5_dirty_52 : decode cX5_dirty 52 = .ok (.aload_n 0, 1) := by decide +kernel
theorem dX5_dirty_53 : decode cX5_dirty 53 = .ok (.iload 5, 2) := by decide +kernel
theorem dX5_dirty_55 : decode cX5_dirty 55 = .ok (.iconst 5, 1) := by decide +kernel
theorem dX5_dirty_56 : decode cX5_dirty 56 = .ok (.iconst 0, 1) := by decide +kernel
theorem dX5_dirty_57 : decode cX5_dirty 57 = .ok (.invokevirtual 60, 3) := by decide +kernel
theorem dX5_dirty_60 : decode cX5_dirty 60 = .ok (.aload_n 0, 1) := by decide +kernel
theorem dX5_dirty_61 : decode cX5_dirty 61 = .ok (.iload_n 1, 1) := by decide +kernel
theorem dX5_dirty_62 : decode cX5_dirty 62 = .ok (.invokevirtual 92, 3) := by decide +kernel
theorem dX5_dirty_65 : decode cX5_dirty 65 = .ok (.istore 6, 2) := by decide +kernel
theorem dX5_dirty_67 : decode cX5_dirty 67 = .ok (.aload_n 0, 1) := by decide +kernel
theorem dX5_dirty_68 : decode cX5_dirty 68 = .ok (.aload_n 2, 1) := by decide +kernel
theorem dX5_dirty_69 : decode cX5_dirty 69 = .ok (.invokevirtual 110, 3) := by decide +kernel
theorem dX5_dirty_72 : decode cX5_dirty 72 = .ok (.iload 6, 2) := by decide +kernel
theorem dX5_dirty_74 : decode cX5_dirty 74 = .ok (.iload 4, 2) := by decide +kernel
theorem dX5_dirty_76 : decode cX5_dirty 76 = .ok (.if_icmp .lt 6, 3) := by decide +kernel
theorem dX5_dirty_79 : decode cX5_dirty 79 = .ok (.goto 10, 3) := by decide +kernel
theorem dX5_dirty_82 : decode cX5_dirty 82 = .ok (.iload 5, 2) := by decide +kernel
theorem dX5_dirty_84 : decode cX5_dirty 84 = .ok (.istore_n 3, 1) := by decide +kernel
theorem dX5_dirty_85 : decode cX5_dirty 85 = .ok (.iload 6, 2) := by decide +kernel
theorem dX5_dirty_87 : decode cX5_dirty 87 = .ok (.istore 4, 2) := by decide +kernel
theorem dX5_dirty_89 : decode cX5_dirty 89 = .ok (.iinc 5 1, 3) := by decide +kernel
theorem dX5_dirty_92 : decode cX5_dirty 92 = .ok (.goto (-49), 3) := by decide +kernel
theorem dX5_dirty_95 : decode cX5_dirty 95 = .ok (.iload_n 3, 1) := by decide +kernel
theorem dX5_dirty_96 : decode cX5_dirty 96 = .ok (.ireturn, 1) := by decide +kernel
theorem dX5_advise_0 : decode cX5_advise 0 = .ok (.aload_n 0, 1) := by decide +kernel
theorem dX5_advise_1 : decode cX5_advise 1 = .ok (.iconst 0, 1) := by decide +kernel
theorem dX5_advise_2 : decode cX5_advise 2 = .ok (.putfield 28, 3) := by decide +kernel
theorem dX5_advise_5 : decode cX5_advise 5 = .ok (.iload_n 1, 1) := by decide +kernel
theorem dX5_advise_6 : decode cX5_advise 6 = .ok (.iconst 1, 1) := by decide +kernel
theorem dX5_advise_7 : decode cX5_advise 7 = .ok (.bipush 60, 2) := by decide +kernel
theorem dX5_advise_9 : decode cX5_advise 9 = .ok (.invokestatic 35, 3) := by decide +kernel
theorem dX5_advise_12 : decode cX5_advise 12 = .ok (.ifCond .ne 9, 3) := by decide +kernel
theorem dX5_advise_15 : decode cX5_advise 15 = .ok (.aload_n 0, 1) := by decide +kernel
theorem dX5_advise_16 : decode cX5_advise 16 = .ok (.iconst 1, 1) := by decide +kernel
theorem dX5_advise_17 : decode cX5_advise 17 = .ok (.invokevirtual 42, 3) := by decide +kernel
theorem dX5_advise_20 : decode cX5_advise 20 = .ok (.ireturn, 1) := by decide +kernel
theorem dX5_advise_21 : decode cX5_advise 21 = .ok (.aload_n 0, 1) := by decide +kernel
theorem dX5_advise_22 : decode cX5_advise 22 = .ok (.invokevirtual 106, 3) := by decide +kernel
theorem dX5_advise_25 : decode cX5_advise 25 = .ok (.astore_n 2, 1) := by decide +kernel
theorem dX5_advise_26 : decode cX5_advise 26 = .ok (.iconst (-1), 1) := by decide +kernel
theorem dX5_advise_27 : decode cX5_advise 27 = .ok (.istore_n 3, 1) := by decide +kernel
theorem dX5_advise_28 : decode cX5_advise 28 = .ok (.aload_n 0, 1) := by decide +kernel
theorem dX5_advise_29 : decode cX5_advise 29 = .ok (.iload_n 1, 1) := by decide +kernel
theorem dX5_advise_30 : decode cX5_advise 30 = .ok (.invokevirtual 92, 3) := by decide +kernel
theorem dX5_advise_33 : decode cX5_advise 33 = .ok (.istore 4, 2) := by decide +kernel
theorem dX5_advise_35 : decode cX5_advise 35 = .ok (.aload_n 0, 1) := by decide +kernel
theorem dX5_advise_36 : decode cX5_advise 36 = .ok (.aload_n 2, 1) := by decide +kernel
theorem dX5_advise_37 : decode cX5_advise 37 = .ok (.invokevirtual 110, 3) := by decide +kernel
theorem dX5_advise_40 : decode cX5_advise 40 = .ok (.iconst 0, 1) := by decide +kernel
theorem dX5_advise_41 : decode cX5_advise 41 = .ok (.istore 5, 2) := by decide +kernel
theorem dX5_advise_43 : decode cX5_advise 43 = .ok (.iload 5, 2) := by decide +kernel
theorem dX5_advise_45 : decode cX5_advise 45 = .ok (.aload_n 0, 1) := by decide +kernel
theorem dX5_advise_46 : decode cX5_advise 46 = .ok (.getfield 39, 3) := by decide +kernel
theorem dX5_advise_49 : decode cX5_advise 49 = .ok (.if_icmp .ge 58, 3) := by decide +kernel
theorem dX5_advise_52 : decode cX5_advise 52 = .ok (.aload_n 0, 1) := by decide +kernel
theorem dX5_advise_53 : decode cX5_advise 53 = .ok (.getfield 19, 3) := by decide +kernel
theorem dX5_advise_56 : decode cX5_advise 56 = .ok (.iconst 5, 1) := by decide +kernel
theorem dX5_advise_57 : decode cX5_advise 57 = .ok (.iload 5, 2) := by decide +kernel
theorem dX5_advise_59 : decode cX5_advise 59 = .ok (.imul, 1) := by decide +kernel
theorem dX5_advise_60 : decode cX5_advise 60 = .ok (.iconst 3, 1) := by decide +kernel
theorem dX5_advise_61 : decode cX5_advise 61 = .ok (.iadd, 1) := by decide +kernel
theorem dX5_advise_62 : decode cX5_advise 62 = .ok (.iconst 1, 1) := by decide +kernel
theorem dX5_advise_63 : decode cX5_advise 63 = .ok (.aload_n 0, 1) := by decide +kernel
theorem dX5_advise_64 : decode cX5_advise 64 = .ok (.iload 5, 2) := by decide +kernel
theorem dX5_advise_66 : decode cX5_advise 66 = .ok (.iconst 3, 1) := by decide +kernel
theorem dX5_advise_67 : decode cX5_advise 67 = .ok (.invokevirtual 67, 3) := by decide +kernel
theorem dX5_advise_70 : decode cX5_advise 70 = .ok (.isub, 1) := by decide +kernel
theorem dX5_advise_71 : decode cX5_advise 71 = .ok (.iastore, 1) := by decide +kernel
theorem dX5_advise_72 : decode cX5_advise 72 = .ok (.aload_n 0, 1) := by decide +kernel
theorem dX5_advise_73 : decode cX5_advise 73 = .ok (.iload_n 1, 1) := by decide +kernel
theorem dX5_advise_74 : decode cX5_advise 74 = .ok (.invokevirtual 92, 3) := by decide +kernel
theorem dX5_advise_77 : decode cX5_advise 77 = .ok (.istore 6, 2) := by decide +kernel
theorem dX5_advise_79 : decode cX5_advise 79 = .ok (.aload_n 0, 1) := by decide +kernel
theorem dX5_advise_80 : decode cX5_advise 80 = .ok (.aload_n 2, 1) := by decide +kernel
theorem dX5_advise_81 : decode cX5_advise 81 = .ok (.invokevirtual 110, 3) := by decide +kernel
theorem dX5_advise_84 : decode cX5_advise 84 = .ok (.iload 6, 2) := by decide +kernel
theorem dX5_advise_86 : decode cX5_advise 86 = .ok (.iload 4, 2) := by decide +kernel
theorem dX5_advise_88 : decode cX5_advise 88 = .ok (.if_icmp .lt 6, 3) := by decide +kernel
theorem dX5_advise_91 : decode cX5_advise 91 = .ok (.goto 10, 3) := by decide +kernel
theorem dX5_advise_94 : decode cX5_advise 94 = .ok (.iload 5, 2) := by decide +kernel
theorem dX5_advise_96 : decode cX5_advise 96 = .ok (.istore_n 3, 1) := by decide +kernel
theorem dX5_advise_97 : decode cX5_advise 97 = .ok (.iload 6, 2) := by decide +kernel
theorem dX5_advise_99 : decode cX5_advise 99 = .ok (.istore 4, 2) := by decide +kernel
theorem dX5_advise_101 : decode cX5_advise 101 = .ok (.iinc 5 1, 3) := by decide +kernel
theorem dX5_advise_104 : decode cX5_advise 104 = .ok (.goto (-61), 3) := by decide +kernel
theorem dX5_advise_107 : decode cX5_advise 107 = .ok (.iload_n 3, 1) := by decide +kernel
theorem dX5_advise_108 : decode cX5_advise 108 = .ok (.ireturn, 1) := by decide +kernel
theorem dX5_drought_0 : decode cX5_drought 0 = .ok (.aload_n 0, 1) := by decide +kernel
theorem dX5_drought_1 : decode cX5_drought 1 = .ok (.iconst 0, 1) := by decide +kernel
theorem dX5_drought_2 : decode cX5_drought 2 = .ok (.putfield 28, 3) := by decide +kernel
theorem dX5_drought_5 : decode cX5_drought 5 = .ok (.iconst 0, 1) := by decide +kernel
theorem dX5_drought_6 : decode cX5_drought 6 = .ok (.istore_n 1, 1) := by decide +kernel
theorem dX5_drought_7 : decode cX5_drought 7 = .ok (.iconst 0, 1) := by decide +kernel
theorem dX5_drought_8 : decode cX5_drought 8 = .ok (.istore_n 2, 1) := by decide +kernel
theorem dX5_drought_9 : decode cX5_drought 9 = .ok (.iload_n 2, 1) := by decide +kernel
theorem dX5_drought_10 : decode cX5_drought 10 = .ok (.bipush 28, 2) := by decide +kernel
theorem dX5_drought_12 : decode cX5_drought 12 = .ok (.if_icmp .ge 43, 3) := by decide +kernel
theorem dX5_drought_15 : decode cX5_drought 15 = .ok (.iconst 0, 1) := by decide +kernel
theorem dX5_drought_16 : decode cX5_drought 16 = .ok (.istore_n 3, 1) := by decide +kernel
theorem dX5_drought_17 : decode cX5_drought 17 = .ok (.iload_n 3, 1) := by decide +kernel
theorem dX5_drought_18 : decode cX5_drought 18 = .ok (.bipush 28, 2) := by decide +kernel
theorem dX5_drought_20 : decode cX5_drought 20 = .ok (.if_icmp .ge 23, 3) := by decide +kernel
theorem dX5_drought_23 : decode cX5_drought 23 = .ok (.aload_n 0, 1) := by decide +kernel
theorem dX5_drought_24 : decode cX5_drought 24 = .ok (.getfield 9, 3) := by decide +kernel
theorem dX5_drought_27 : decode cX5_drought 27 = .ok (.iload_n 2, 1) := by decide +kernel
theorem dX5_drought_28 : decode cX5_drought 28 = .ok (.iload_n 3, 1) := by decide +kernel
theorem dX5_drought_29 : decode cX5_drought 29 = .ok (.iadd, 1) := by decide +kernel
theorem dX5_drought_30 : decode cX5_drought 30 = .ok (.bipush 28, 2) := by decide +kernel
theorem dX5_drought_32 : decode cX5_drought 32 = .ok (.irem, 1) := by decide +kernel
theorem dX5_drought_33 : decode cX5_drought 33 = .ok (.iaload, 1) := by decide +kernel
theorem dX5_drought_34 : decode cX5_drought 34 = .ok (.ifCond .ne 9, 3) := by decide +kernel
theorem dX5_drought_37 : decode cX5_drought 37 = .ok (.iinc 3 1, 3) := by decide +kernel
theorem dX5_drought_40 : decode cX5_drought 40 = .ok (.goto (-23), 3) := by decide +kernel
theorem dX5_drought_43 : decode cX5_drought 43 = .ok (.iload_n 1, 1) := by decide +kernel
theorem dX5_drought_44 : decode cX5_drought 44 = .ok (.iload_n 3, 1) := by decide +kernel
theorem dX5_drought_45 : decode cX5_drought 45 = .ok (.invokestatic 114, 3) := by decide +kernel
theorem dX5_drought_48 : decode cX5_drought 48 = .ok (.istore_n 1, 1) := by decide +kernel
theorem dX5_drought_49 : decode cX5_drought 49 = .ok (.iinc 2 1, 3) := by decide +kernel
theorem dX5_drought_52 : decode cX5_drought 52 = .ok (.goto (-43), 3) := by decide +kernel
theorem dX5_drought_55 : decode cX5_drought 55 = .ok (.iload_n 1, 1) := by decide +kernel
theorem dX5_drought_56 : decode cX5_drought 56 = .ok (.ireturn, 1) := by decide +kernel
theorem dX5_full_0 : decode cX5_full 0 = .ok (.aload_n 0, 1) := by decide +kernel
theorem dX5_full_1 : decode cX5_full 1 = .ok (.iconst 0, 1) := by decide +kernel
theorem dX5_full_2 : decode cX5_full 2 = .ok (.putfield 28, 3) := by decide +kernel
theorem dX5_full_5 : decode cX5_full 5 = .ok (.aload_n 0, 1) := by decide +kernel
theorem dX5_full_6 : decode cX5_full 6 = .ok (.getfield 32, 3) := by decide +kernel
theorem dX5_full_9 : decode cX5_full 9 = .ok (.ifCond .ne 7, 3) := by decide +kernel
theorem dX5_full_12 : decode cX5_full 12 = .ok (.dconst 0, 1) := by decide +kernel
theorem dX5_full_13 : decode cX5_full 13 = .ok (.goto 16, 3) := by decide +kernel
theorem dX5_full_16 : decode cX5_full 16 = .ok (.aload_n 0, 1) := by decide +kernel
theorem dX5_full_17 : decode cX5_full 17 = .ok (.iconst 2, 1) := by decide +kernel
theorem dX5_full_18 : decode cX5_full 18 = .ok (.invokevirtual 95, 3) := by decide +kernel
theorem dX5_full_21 : decode cX5_full 21 = .ok (.i2d, 1) := by decide +kernel
theorem dX5_full_22 : decode cX5_full 22 = .ok (.aload_n 0, 1) := by decide +kernel
theorem dX5_full_23 : decode cX5_full 23 = .ok (.iconst 1, 1) := by decide +kernel
theorem dX5_full_24 : decode cX5_full 24 = .ok (.invokevirtual 95, 3) := by decide +kernel
theorem dX5_full_27 : decode cX5_full 27 = .ok (.i2d, 1) := by decide +kernel
theorem dX5_full_28 : decode cX5_full 28 = .ok (.ddiv, 1) := by decide +kernel
theorem dX5_full_29 : decode cX5_full 29 = .ok (.dreturn, 1) := by decide +kernel
theorem dX5_digest_0 : decode cX5_digest 0 = .ok (.aload_n 0, 1) := by decide +kernel
theorem dX5_digest_1 : decode cX5_digest 1 = .ok (.iconst 0, 1) := by decide +kernel
theorem dX5_digest_2 : decode cX5_digest 2 = .ok (.putfield 28, 3) := by decide +kernel
theorem dX5_digest_5 : decode cX5_digest 5 = .ok (.ldc2_w 117, 3) := by decide +kernel
theorem dX5_digest_8 : decode cX5_digest 8 = .ok (.lstore_n 1, 1) := by decide +kernel
theorem dX5_digest_9 : decode cX5_digest 9 = .ok (.iconst 0, 1) := by decide +kernel
theorem dX5_digest_10 : decode cX5_digest 10 = .ok (.istore_n 3, 1) := by decide +kernel
theorem dX5_digest_11 : decode cX5_digest 11 = .ok (.iload_n 3, 1) := by decide +kernel
theorem dX5_digest_12 : decode cX5_digest 12 = .ok (.bipush 11, 2) := by decide +kernel
theorem dX5_digest_14 : decode cX5_digest 14 = .ok (.if_icmp .ge 22, 3) := by decide +kernel
theorem dX5_digest_17 : decode cX5_digest 17 = .ok (.lload_n 1, 1) := by decide +kernel
theorem dX5_digest_18 : decode cX5_digest 18 = .ok (.ldc2_w 119, 3) := by decide +kernel
theorem dX5_digest_21 : decode cX5_digest 21 = .ok (.lmul, 1) := by decide +kernel
theorem dX5_digest_22 : decode cX5_digest 22 = .ok (.aload_n 0, 1) := by decide +kernel
theorem dX5_digest_23 : decode cX5_digest 23 = .ok (.iload_n 3, 1) := by decide +kernel
theorem dX5_digest_24 : decode cX5_digest 24 = .ok (.invokevirtual 98, 3) := by decide +kernel
theorem dX5_digest_27 : decode cX5_digest 27 = .ok (.i2l, 1) := by decide +kernel
theorem dX5_digest_28 : decode cX5_digest 28 = .ok (.ladd, 1) := by decide +kernel
theorem dX5_digest_29 : decode cX5_digest 29 = .ok (.lstore_n 1, 1) := by decide +kernel
theorem dX5_digest_30 : decode cX5_digest 30 = .ok (.iinc 3 1, 3) := by decide +kernel
theorem dX5_digest_33 : decode cX5_digest 33 = .ok (.goto (-22), 3) := by decide +kernel
theorem dX5_digest_36 : decode cX5_digest 36 = .ok (.iconst 0, 1) := by decide +kernel
theorem dX5_digest_37 : decode cX5_digest 37 = .ok (.istore_n 3, 1) := by decide +kernel
theorem dX5_digest_38 : decode cX5_digest 38 = .ok (.iload_n 3, 1) := by decide +kernel
theorem dX5_digest_39 : decode cX5_digest 39 = .ok (.bipush 28, 2) := by decide +kernel
theorem dX5_digest_41 : decode cX5_digest 41 = .ok (.if_icmp .ge 33, 3) := by decide +kernel
theorem dX5_digest_44 : decode cX5_digest 44 = .ok (.lload_n 1, 1) := by decide +kernel
theorem dX5_digest_45 : decode cX5_digest 45 = .ok (.ldc2_w 119, 3) := by decide +kernel
theorem dX5_digest_48 : decode cX5_digest 48 = .ok (.lmul, 1) := by decide +kernel
theorem dX5_digest_49 : decode cX5_digest 49 = .ok (.bipush 10, 2) := by decide +kernel
theorem dX5_digest_51 : decode cX5_digest 51 = .ok (.aload_n 0, 1) := by decide +kernel
theorem dX5_digest_52 : decode cX5_digest 52 = .ok (.getfield 9, 3) := by decide +kernel
theorem dX5_digest_55 : decode cX5_digest 55 = .ok (.iload_n 3, 1) := by decide +kernel
theorem dX5_digest_56 : decode cX5_digest 56 = .ok (.iaload, 1) := by decide +kernel
theorem dX5_digest_57 : decode cX5_digest 57 = .ok (.imul, 1) := by decide +kernel
theorem dX5_digest_58 : decode cX5_digest 58 = .ok (.aload_n 0, 1) := by decide +kernel
theorem dX5_digest_59 : decode cX5_digest 59 = .ok (.getfield 13, 3) := by decide +kernel
theorem dX5_digest_62 : decode cX5_digest 62 = .ok (.iload_n 3, 1) := by decide +kernel
theorem dX5_digest_63 : decode cX5_digest 63 = .ok (.iaload, 1) := by decide +kernel
theorem dX5_digest_64 : decode cX5_digest 64 = .ok (.iadd, 1) := by decide +kernel
theorem dX5_digest_65 : decode cX5_digest 65 = .ok (.i2l, 1) := by decide +kernel
theorem dX5_digest_66 : decode cX5_digest 66 = .ok (.ladd, 1) := by decide +kernel
theorem dX5_digest_67 : decode cX5_digest 67 = .ok (.lstore_n 1, 1) := by decide +kernel
theorem dX5_digest_68 : decode cX5_digest 68 = .ok (.iinc 3 1, 3) := by decide +kernel
theorem dX5_digest_71 : decode cX5_digest 71 = .ok (.goto (-33), 3) := by decide +kernel
theorem dX5_digest_74 : decode cX5_digest 74 = .ok (.iconst 0, 1) := by decide +kernel
theorem dX5_digest_75 : decode cX5_digest 75 = .ok (.istore_n 3, 1) := by decide +kernel
theorem dX5_digest_76 : decode cX5_digest 76 = .ok (.iload_n 3, 1) := by decide +kernel
theorem dX5_digest_77 : decode cX5_digest 77 = .ok (.aload_n 0, 1) := by decide +kernel
theorem dX5_digest_78 : decode cX5_digest 78 = .ok (.getfield 32, 3) := by decide +kernel
theorem dX5_digest_81 : decode cX5_digest 81 = .ok (.if_icmp .ge 40, 3) := by decide +kernel
theorem dX5_digest_84 : decode cX5_digest 84 = .ok (.iconst 0, 1) := by decide +kernel
theorem dX5_digest_85 : decode cX5_digest 85 = .ok (.istore 4, 2) := by decide +kernel
theorem dX5_digest_87 : decode cX5_digest 87 = .ok (.iload 4, 2) := by decide +kernel
theorem dX5_digest_89 : decode cX5_digest 89 = .ok (.bipush 10, 2) := by decide +kernel
theorem dX5_digest_91 : decode cX5_digest 91 = .ok (.if_icmp .ge 24, 3) := by decide +kernel
theorem dX5_digest_94 : decode cX5_digest 94 = .ok (.lload_n 1, 1) := by decide +kernel
theorem dX5_digest_95 : decode cX5_digest 95 = .ok (.ldc2_w 119, 3) := by decide +kernel
theorem dX5_digest_98 : decode cX5_digest 98 = .ok (.lmul, 1) := by decide +kernel
theorem dX5_digest_99 : decode cX5_digest 99 = .ok (.aload_n 0, 1) := by decide +kernel
theorem dX5_digest_100 : decode cX5_digest 100 = .ok (.iload_n 3, 1) := by decide +kernel
theorem dX5_digest_101 : decode cX5_digest 101 = .ok (.iload 4, 2) := by decide +kernel
theorem dX5_digest_103 : decode cX5_digest 103 = .ok (.invokevirtual 56, 3) := by decide +kernel
theorem dX5_digest_106 : decode cX5_digest 106 = .ok (.i2l, 1) := by decide +kernel
theorem dX5_digest_107 : decode cX5_digest 107 = .ok (.ladd, 1) := by decide +kernel
theorem dX5_digest_108 : decode cX5_digest 108 = .ok (.lstore_n 1, 1) := by decide +kernel
theorem dX5_digest_109 : decode cX5_digest 109 = .ok (.iinc 4 1, 3) := by decide +kernel
theorem dX5_digest_112 : decode cX5_digest 112 = .ok (.goto (-25), 3) := by decide +kernel
theorem dX5_digest_115 : decode cX5_digest 115 = .ok (.iinc 3 1, 3) := by decide +kernel
theorem dX5_digest_118 : decode cX5_digest 118 = .ok (.goto (-42), 3) := by decide +kernel
theorem dX5_digest_121 : decode cX5_digest 121 = .ok (.iconst 0, 1) := by decide +kernel
theorem dX5_digest_122 : decode cX5_digest 122 = .ok (.istore_n 3, 1) := by decide +kernel
theorem dX5_digest_123 : decode cX5_digest 123 = .ok (.iload_n 3, 1) := by decide +kernel
theorem dX5_digest_124 : decode cX5_digest 124 = .ok (.aload_n 0, 1) := by decide +kernel
theorem dX5_digest_125 : decode cX5_digest 125 = .ok (.getfield 39, 3) := by decide +kernel
theorem dX5_digest_128 : decode cX5_digest 128 = .ok (.if_icmp .ge 39, 3) := by decide +kernel
theorem dX5_digest_131 : decode cX5_digest 131 = .ok (.iconst 0, 1) := by decide +kernel
theorem dX5_digest_132 : decode cX5_digest 132 = .ok (.istore 4, 2) := by decide +kernel
theorem dX5_digest_134 : decode cX5_digest 134 = .ok (.iload 4, 2) := by decide +kernel
theorem dX5_digest_136 : decode cX5_digest 136 = .ok (.iconst 5, 1) := by decide +kernel
theorem dX5_digest_137 : decode cX5_digest 137 = .ok (.if_icmp .ge 24, 3) := by decide +kernel
theorem dX5_digest_140 : decode cX5_digest 140 = .ok (.lload_n 1, 1) := by decide +kernel
theorem dX5_digest_141 : decode cX5_digest 141 = .ok (.ldc2_w 119, 3) := by decide +kernel
theorem dX5_digest_144 : decode cX5_digest 144 = .ok (.lmul, 1) := by decide +kernel
theorem dX5_digest_145 : decode cX5_digest 145 = .ok (.aload_n 0, 1) := by decide +kernel
theorem dX5_digest_146 : decode cX5_digest 146 = .ok (.iload_n 3, 1) := by decide +kernel
theorem dX5_digest_147 : decode cX5_digest 147 = .ok (.iload 4, 2) := by decide +kernel
theorem dX5_digest_149 : decode cX5_digest 149 = .ok (.invokevirtual 67, 3) := by decide +kernel
theorem dX5_digest_152 : decode cX5_digest 152 = .ok (.i2l, 1) := by decide +kernel
theorem dX5_digest_153 : decode cX5_digest 153 = .ok (.ladd, 1) := by decide +kernel
theorem dX5_digest_154 : decode cX5_digest 154 = .ok (.lstore_n 1, 1) := by decide +kernel
theorem dX5_digest_155 : decode cX5_digest 155 = .ok (.iinc 4 1, 3) := by decide +kernel
theorem dX5_digest_158 : decode cX5_digest 158 = .ok (.goto (-24), 3) := by decide +kernel
theorem dX5_digest_161 : decode cX5_digest 161 = .ok (.iinc 3 1, 3) := by decide +kernel
theorem dX5_digest_164 : decode cX5_digest 164 = .ok (.goto (-41), 3) := by decide +kernel
theorem dX5_digest_167 : decode cX5_digest 167 = .ok (.iconst 0, 1) := by decide +kernel
theorem dX5_digest_168 : decode cX5_digest 168 = .ok (.istore_n 3, 1) := by decide +kernel
theorem dX5_digest_169 : decode cX5_digest 169 = .ok (.iload_n 3, 1) := by decide +kernel
theorem dX5_digest_170 : decode cX5_digest 170 = .ok (.aload_n 0, 1) := by decide +kernel
theorem dX5_digest_171 : decode cX5_digest 171 = .ok (.getfield 32, 3) := by decide +kernel
theorem dX5_digest_174 : decode cX5_digest 174 = .ok (.if_icmp .ge 44, 3) := by decide +kernel
theorem dX5_digest_177 : decode cX5_digest 177 = .ok (.iload_n 3, 1) := by decide +kernel
theorem dX5_digest_178 : decode cX5_digest 178 = .ok (.iconst 1, 1) := by decide +kernel
theorem dX5_digest_179 : decode cX5_digest 179 = .ok (.iadd, 1) := by decide +kernel
theorem dX5_digest_180 : decode cX5_digest 180 = .ok (.istore 4, 2) := by decide +kernel
theorem dX5_digest_182 : decode cX5_digest 182 = .ok (.iload 4, 2) := by decide +kernel
theorem dX5_digest_184 : decode cX5_digest 184 = .ok (.aload_n 0, 1) := by decide +kernel
theorem dX5_digest_185 : decode cX5_digest 185 = .ok (.getfield 32, 3) := by decide +kernel
theorem dX5_digest_188 : decode cX5_digest 188 = .ok (.if_icmp .ge 24, 3) := by decide +kernel
theorem dX5_digest_191 : decode cX5_digest 191 = .ok (.lload_n 1, 1) := by decide +kernel
theorem dX5_digest_192 : decode cX5_digest 192 = .ok (.ldc2_w 119, 3) := by decide +kernel
theorem dX5_digest_195 : decode cX5_digest 195 = .ok (.lmul, 1) := by decide +kernel
theorem dX5_digest_196 : decode cX5_digest 196 = .ok (.aload_n 0, 1) := by decide +kernel
theorem dX5_digest_197 : decode cX5_digest 197 = .ok (.iload_n 3, 1) := by decide +kernel
theorem dX5_digest_198 : decode cX5_digest 198 = .ok (.iload 4, 2) := by decide +kernel
theorem dX5_digest_200 : decode cX5_digest 200 = .ok (.invokevirtual 78, 3) := by decide +kernel
theorem dX5_digest_203 : decode cX5_digest 203 = .ok (.i2l, 1) := by decide +kernel
theorem dX5_digest_204 : decode cX5_digest 204 = .ok (.ladd, 1) := by decide +kernel
theorem dX5_digest_205 : decode cX5_digest 205 = .ok (.lstore_n 1, 1) := by decide +kernel
theorem dX5_digest_206 : decode cX5_digest 206 = .ok (.iinc 4 1, 3) := by decide +kernel
theorem dX5_digest_209 : decode cX5_digest 209 = .ok (.goto (-27), 3) := by decide +kernel
theorem dX5_digest_212 : decode cX5_digest 212 = .ok (.iinc 3 1, 3) := by decide +kernel
theorem dX5_digest_215 : decode cX5_digest 215 = .ok (.goto (-46), 3) := by decide +kernel
theorem dX5_digest_218 : decode cX5_digest 218 = .ok (.lload_n 1, 1) := by decide +kernel
theorem dX5_digest_219 : decode cX5_digest 219 = .ok (.lreturn, 1) := by decide +kernel
end
section
theorem dL_setWeather_0 : decode cL_setWeather 0 = .ok (.aload 4, 2) := by decide +kernel
theorem dL_setWeather_2 : decode cL_setWeather 2 = .ok (.iconst 0, 1) := by decide +kernel
theorem dL_setWeather_3 : decode cL_setWeather 3 = .ok (.aload_n 0, 1) := by decide +kernel
theorem dL_setWeather_4 : decode cL_setWeather 4 = .ok (.iload_n 1, 1) := by decide +kernel
theorem dL_setWeather_5 : decode cL_setWeather 5 = .ok (.iload_n 2, 1) := by decide +kernel
theorem dL_setWeather_6 : decode cL_setWeather 6 = .ok (.iload_n 3, 1) := by decide +kernel
theorem dL_setWeather_7 : decode cL_setWeather 7 = .ok (.invokevirtual 7, 3) := by decide +kernel
theorem dL_setWeather_10 : decode cL_setWeather 10 = .ok (.i2l, 1) := by decide +kernel
theorem dL_setWeather_11 : decode cL_setWeather 11 = .ok (.lastore, 1) := by decide +kernel
theorem dL_setWeather_12 : decode cL_setWeather 12 = .ok (.goto 11, 3) := by decide +kernel
theorem dL_setWeather_15 : decode cL_setWeather 15 = .ok (.astore 5, 2) := by decide +kernel
theorem dL_setWeather_17 : decode cL_setWeather 17 = .ok (.iconst 1, 1) := by decide +kernel
theorem dL_setWeather_18 : decode cL_setWeather 18 = .ok (.ireturn, 1) := by decide +kernel
theorem dL_setWeather_19 : decode cL_setWeather 19 = .ok (.astore 5, 2) := by decide +kernel
theorem dL_setWeather_21 : decode cL_setWeather 21 = .ok (.iconst 2, 1) := by decide +kernel
theorem dL_setWeather_22 : decode cL_setWeather 22 = .ok (.ireturn, 1) := by decide +kernel
theorem dL_setWeather_23 : decode cL_setWeather 23 = .ok (.iconst 0, 1) := by decide +kernel
theorem dL_setWeather_24 : decode cL_setWeather 24 = .ok (.ireturn, 1) := by decide +kernel
theorem dL_build_0 : decode cL_build 0 = .ok (.aload 5, 2) := by decide +kernel
theorem dL_build_2 : decode cL_build 2 = .ok (.iconst 0, 1) := by decide +kernel
theorem dL_build_3 : decode cL_build 3 = .ok (.aload_n 0, 1) := by decide +kernel
theorem dL_build_4 : decode cL_build 4 = .ok (.iload_n 1, 1) := by decide +kernel
theorem dL_build_5 : decode cL_build 5 = .ok (.iload_n 2, 1) := by decide +kernel
theorem dL_build_6 : decode cL_build 6 = .ok (.iload_n 3, 1) := by decide +kernel
theorem dL_build_7 : decode cL_build 7 = .ok (.iload 4, 2) := by decide +kernel
theorem dL_build_9 : decode cL_build 9 = .ok (.invokevirtual 17, 3) := by decide +kernel
theorem dL_build_12 : decode cL_build 12 = .ok (.i2l, 1) := by decide +kernel
theorem dL_build_13 : decode cL_build 13 = .ok (.lastore, 1) := by decide +kernel
theorem dL_build_14 : decode cL_build 14 = .ok (.goto 11, 3) := by decide +kernel
theorem dL_build_17 : decode cL_build 17 = .ok (.astore 6, 2) := by decide +kernel
theorem dL_build_19 : decode cL_build 19 = .ok (.iconst 1, 1) := by decide +kernel
theorem dL_build_20 : decode cL_build 20 = .ok (.ireturn, 1) := by decide +kernel
theorem dL_build_21 : decode cL_build 21 = .ok (.astore 6, 2) := by decide +kernel
theorem dL_build_23 : decode cL_build 23 = .ok (.iconst 2, 1) := by decide +kernel
theorem dL_build_24 : decode cL_build 24 = .ok (.ireturn, 1) := by decide +kernel
theorem dL_build_25 : decode cL_build 25 = .ok (.iconst 0, 1) := by decide +kernel
theorem dL_build_26 : decode cL_build 26 = .ok (.ireturn, 1) := by decide +kernel
theorem dL_chain_0 : decode cL_chain 0 = .ok (.aload_n 3, 1) := by decide +kernel
theorem dL_chain_1 : decode cL_chain 1 = .ok (.iconst 0, 1) := by decide +kernel
theorem dL_chain_2 : decode cL_chain 2 = .ok (.aload_n 0, 1) := by decide +kernel
theorem dL_chain_3 : decode cL_chain 3 = .ok (.iload_n 1, 1) := by decide +kernel
theorem dL_chain_4 : decode cL_chain 4 = .ok (.iload_n 2, 1) := by decide +kernel
theorem dL_chain_5 : decode cL_chain 5 = .ok (.invokevirtual 23, 3) := by decide +kernel
theorem dL_chain_8 : decode cL_chain 8 = .ok (.i2l, 1) := by decide +kernel
theorem dL_chain_9 : decode cL_chain 9 = .ok (.lastore, 1) := by decide +kernel
theorem dL_chain_10 : decode cL_chain 10 = .ok (.goto 15, 3) := by decide +kernel
theorem dL_chain_13 : decode cL_chain 13 = .ok (.astore 4, 2) := by decide +kernel
theorem dL_chain_15 : decode cL_chain 15 = .ok (.iconst 1, 1) := by decide +kernel
theorem dL_chain_16 : decode cL_chain 16 = .ok (.ireturn, 1) := by decide +kernel
theorem dL_chain_17 : decode cL_chain 17 = .ok (.astore 4, 2) := by decide +kernel
theorem dL_chain_19 : decode cL_chain 19 = .ok (.iconst 2, 1) := by decide +kernel
theorem dL_chain_20 : decode cL_chain 20 = .ok (.ireturn, 1) := by decide +kernel
theorem dL_chain_21 : decode cL_chain 21 = .ok (.astore 4, 2) := by decide +kernel
theorem dL_chain_23 : decode cL_chain 23 = .ok (.iconst 3, 1) := by decide +kernel
theorem dL_chain_24 : decode cL_chain 24 = .ok (.ireturn, 1) := by decide +kernel
theorem dL_chain_25 : decode cL_chain 25 = .ok (.iconst 0, 1) := by decide +kernel
theorem dL_chain_26 : decode cL_chain 26 = .ok (.ireturn, 1) := by decide +kernel
theorem dL_lay_0 : decode cL_lay 0 = .ok (.aload 4, 2) := by decide +kernel
theorem dL_lay_2 : decode cL_lay 2 = .ok (.iconst 0, 1) := by decide +kernel
theorem dL_lay_3 : decode cL_lay 3 = .ok (.aload_n 0, 1) := by decide +kernel
theorem dL_lay_4 : decode cL_lay 4 = .ok (.iload_n 1, 1) := by decide +kernel
theorem dL_lay_5 : decode cL_lay 5 = .ok (.iload_n 2, 1) := by decide +kernel
theorem dL_lay_6 : decode cL_lay 6 = .ok (.iload_n 3, 1) := by decide +kernel
theorem dL_lay_7 : decode cL_lay 7 = .ok (.invokevirtual 27, 3) := by decide +kernel
theorem dL_lay_10 : decode cL_lay 10 = .ok (.i2l, 1) := by decide +kernel
theorem dL_lay_11 : decode cL_lay 11 = .ok (.lastore, 1) := by decide +kernel
theorem dL_lay_12 : decode cL_lay 12 = .ok (.goto 15, 3) := by decide +kernel
theorem dL_lay_15 : decode cL_lay 15 = .ok (.astore 5, 2) := by decide +kernel
theorem dL_lay_17 : decode cL_lay 17 = .ok (.iconst 1, 1) := by decide +kernel
theorem dL_lay_18 : decode cL_lay 18 = .ok (.ireturn, 1) := by decide +kernel
theorem dL_lay_19 : decode cL_lay 19 = .ok (.astore 5, 2) := by decide +kernel
theorem dL_lay_21 : decode cL_lay 21 = .ok (.iconst 2, 1) := by decide +kernel
theorem dL_lay_22 : decode cL_lay 22 = .ok (.ireturn, 1) := by decide +kernel
theorem dL_lay_23 : decode cL_lay 23 = .ok (.astore 5, 2) := by decide +kernel
theorem dL_lay_25 : decode cL_lay 25 = .ok (.iconst 3, 1) := by decide +kernel
theorem dL_lay_26 : decode cL_lay 26 = .ok (.ireturn, 1) := by decide +kernel
theorem dL_lay_27 : decode cL_lay 27 = .ok (.iconst 0, 1) := by decide +kernel
theorem dL_lay_28 : decode cL_lay 28 = .ok (.ireturn, 1) := by decide +kernel
theorem dL_turn_0 : decode cL_turn 0 = .ok (.aload_n 3, 1) := by decide +kernel
theorem dL_turn_1 : decode cL_turn 1 = .ok (.iconst 0, 1) := by decide +kernel
theorem dL_turn_2 : decode cL_turn 2 = .ok (.aload_n 0, 1) := by decide +kernel
theorem dL_turn_3 : decode cL_turn 3 = .ok (.iload_n 1, 1) := by decide +kernel
theorem dL_turn_4 : decode cL_turn 4 = .ok (.iload_n 2, 1) := by decide +kernel
theorem dL_turn_5 : decode cL_turn 5 = .ok (.invokevirtual 30, 3) := by decide +kernel
theorem dL_turn_8 : decode cL_turn 8 = .ok (.ifCond .eq 7, 3) := by decide +kernel
theorem dL_turn_11 : decode cL_turn 11 = .ok (.lconst 1, 1) := by decide +kernel
theorem dL_turn_12 : decode cL_turn 12 = .ok (.goto 4, 3) := by decide +kernel
theorem dL_turn_15 : decode cL_turn 15 = .ok (.lconst 0, 1) := by decide +kernel
theorem dL_turn_16 : decode cL_turn 16 = .ok (.lastore, 1) := by decide +kernel
theorem dL_turn_17 : decode cL_turn 17 = .ok (.goto 7, 3) := by decide +kernel
theorem dL_turn_20 : decode cL_turn 20 = .ok (.astore 4, 2) := by decide +kernel
theorem dL_turn_22 : decode cL_turn 22 = .ok (.iconst 1, 1) := by decide +kernel
theorem dL_turn_23 : decode cL_turn 23 = .ok (.ireturn, 1) := by decide +kernel
theorem dL_turn_24 : decode cL_turn 24 = .ok (.iconst 0, 1) := by decide +kernel
theorem dL_turn_25 : decode cL_turn 25 = .ok (.ireturn, 1) := by decide +kernel
theorem dL_clean_0 : decode cL_clean 0 = .ok (.aload_n 2, 1) := by decide +kernel
theorem dL_clean_1 : decode cL_clean 1 = .ok (.iconst 0, 1) := by decide +kernel
theorem dL_clean_2 : decode cL_clean 2 = .ok (.aload_n 0, 1) := by decide +kernel
theorem dL_clean_3 : decode cL_clean 3 = .ok (.iload_n 1, 1) := by decide +kernel
theorem dL_clean_4 : decode cL_clean 4 = .ok (.invokevirtual 34, 3) := by decide +kernel
theorem dL_clean_7 : decode cL_clean 7 = .ok (.i2l, 1) := by decide +kernel
theorem dL_clean_8 : decode cL_clean 8 = .ok (.lastore, 1) := by decide +kernel
theorem dL_clean_9 : decode cL_clean 9 = .ok (.goto 6, 3) := by decide +kernel
theorem dL_clean_12 : decode cL_clean 12 = .ok (.astore_n 3, 1) := by decide +kernel
theorem dL_clean_13 : decode cL_clean 13 = .ok (.iconst 1, 1) := by decide +kernel
theorem dL_clean_14 : decode cL_clean 14 = .ok (.ireturn, 1) := by decide +kernel
theorem dL_clean_15 : decode cL_clean 15 = .ok (.iconst 0, 1) := by decide +kernel
theorem dL_clean_16 : decode cL_clean 16 = .ok (.ireturn, 1) := by decide +kernel
theorem dL_cart_0 : decode cL_cart 0 = .ok (.aload_n 3, 1) := by decide +kernel
theorem dL_cart_1 : decode cL_cart 1 = .ok (.iconst 0, 1) := by decide +kernel
theorem dL_cart_2 : decode cL_cart 2 = .ok (.aload_n 0, 1) := by decide +kernel
theorem dL_cart_3 : decode cL_cart 3 = .ok (.iload_n 1, 1) := by decide +kernel
theorem dL_cart_4 : decode cL_cart 4 = .ok (.iload_n 2, 1) := by decide +kernel
theorem dL_cart_5 : decode cL_cart 5 = .ok (.invokevirtual 38, 3) := by decide +kernel
theorem dL_cart_8 : decode cL_cart 8 = .ok (.i2l, 1) := by decide +kernel
theorem dL_cart_9 : decode cL_cart 9 = .ok (.lastore, 1) := by decide +kernel
theorem dL_cart_10 : decode cL_cart 10 = .ok (.goto 11, 3) := by decide +kernel
theorem dL_cart_13 : decode cL_cart 13 = .ok (.astore 4, 2) := by decide +kernel
theorem dL_cart_15 : decode cL_cart 15 = .ok (.iconst 1, 1) := by decide +kernel
theorem dL_cart_16 : decode cL_cart 16 = .ok (.ireturn, 1) := by decide +kernel
theorem dL_cart_17 : decode cL_cart 17 = .ok (.astore 4, 2) := by decide +kernel
theorem dL_cart_19 : decode cL_cart 19 = .ok (.iconst 2, 1) := by decide +kernel
theorem dL_cart_20 : decode cL_cart 20 = .ok (.ireturn, 1) := by decide +kernel
theorem dL_cart_21 : decode cL_cart 21 = .ok (.iconst 0, 1) := by decide +kernel
theorem dL_cart_22 : decode cL_cart 22 = .ok (.ireturn, 1) := by decide +kernel
theorem dL_setPeople_0 : decode cL_setPeople 0 = .ok (.aload_n 3, 1) := by decide +kernel
theorem dL_setPeople_1 : decode cL_setPeople 1 = .ok (.iconst 0, 1) := by decide +kernel
theorem dL_setPeople_2 : decode cL_setPeople 2 = .ok (.aload_n 0, 1) := by decide +kernel
theorem dL_setPeople_3 : decode cL_setPeople 3 = .ok (.iload_n 1, 1) := by decide +kernel
theorem dL_setPeople_4 : decode cL_setPeople 4 = .ok (.iload_n 2, 1) := by decide +kernel
theorem dL_setPeople_5 : decode cL_setPeople 5 = .ok (.invokevirtual 41, 3) := by decide +kernel
theorem dL_setPeople_8 : decode cL_setPeople 8 = .ok (.i2l, 1) := by decide +kernel
theorem dL_setPeople_9 : decode cL_setPeople 9 = .ok (.lastore, 1) := by decide +kernel
theorem dL_setPeople_10 : decode cL_setPeople 10 = .ok (.goto 11, 3) := by decide +kernel
theorem dL_setPeople_13 : decode cL_setPeople 13 = .ok (.astore 4, 2) := by decide +kernel
theorem dL_setPeople_15 : decode cL_setPeople 15 = .ok (.iconst 1, 1) := by decide +kernel
theorem dL_setPeople_16 : decode cL_setPeople 16 = .ok (.ireturn, 1) := by decide +kernel
theorem dL_setPeople_17 : decode cL_setPeople 17 = .ok (.astore 4, 2) := by decide +kernel
theorem dL_setPeople_19 : decode cL_setPeople 19 = .ok (.iconst 2, 1) := by decide +kernel
theorem dL_setPeople_20 : decode cL_setPeople 20 = .ok (.ireturn, 1) := by decide +kernel
theorem dL_setPeople_21 : decode cL_setPeople 21 = .ok (.iconst 0, 1) := by decide +kernel
theorem dL_setPeople_22 : decode cL_setPeople 22 = .ok (.ireturn, 1) := by decide +kernel
theorem dL_house_0 : decode cL_house 0 = .ok (.aload_n 3, 1) := by decide +kernel
theorem dL_house_1 : decode cL_house 1 = .ok (.iconst 0, 1) := by decide +kernel
theorem dL_house_2 : decode cL_house 2 = .ok (.aload_n 0, 1) := by decide +kernel
theorem dL_house_3 : decode cL_house 3 = .ok (.iload_n 1, 1) := by decide +kernel
theorem dL_house_4 : decode cL_house 4 = .ok (.iload_n 2, 1) := by decide +kernel
theorem dL_house_5 : decode cL_house 5 = .ok (.invokevirtual 44, 3) := by decide +kernel
theorem dL_house_8 : decode cL_house 8 = .ok (.i2l, 1) := by decide +kernel
theorem dL_house_9 : decode cL_house 9 = .ok (.lastore, 1) := by decide +kernel
theorem dL_house_10 : decode cL_house 10 = .ok (.goto 7, 3) := by decide +kernel
theorem dL_house_13 : decode cL_house 13 = .ok (.astore 4, 2) := by decide +kernel
theorem dL_house_15 : decode cL_house 15 = .ok (.iconst 1, 1) := by decide +kernel
theorem dL_house_16 : decode cL_house 16 = .ok (.ireturn, 1) := by decide +kernel
theorem dL_house_17 : decode cL_house 17 = .ok (.iconst 0, 1) := by decide +kernel
theorem dL_house_18 : decode cL_house 18 = .ok (.ireturn, 1) := by decide +kernel
theorem dL_pipe_0 : decode cL_pipe 0 = .ok (.aload_n 3, 1) := by decide +kernel
theorem dL_pipe_1 : decode cL_pipe 1 = .ok (.iconst 0, 1) := by decide +kernel
theorem dL_pipe_2 : decode cL_pipe 2 = .ok (.aload_n 0, 1) := by decide +kernel
theorem dL_pipe_3 : decode cL_pipe 3 = .ok (.iload_n 1, 1) := by decide +kernel
theorem dL_pipe_4 : decode cL_pipe 4 = .ok (.iload_n 2, 1) := by decide +kernel
theorem dL_pipe_5 : decode cL_pipe 5 = .ok (.invokevirtual 47, 3) := by decide +kernel
theorem dL_pipe_8 : decode cL_pipe 8 = .ok (.i2l, 1) := by decide +kernel
theorem dL_pipe_9 : decode cL_pipe 9 = .ok (.lastore, 1) := by decide +kernel
theorem dL_pipe_10 : decode cL_pipe 10 = .ok (.goto 7, 3) := by decide +kernel
theorem dL_pipe_13 : decode cL_pipe 13 = .ok (.astore 4, 2) := by decide +kernel
theorem dL_pipe_15 : decode cL_pipe 15 = .ok (.iconst 1, 1) := by decide +kernel
theorem dL_pipe_16 : decode cL_pipe 16 = .ok (.ireturn, 1) := by decide +kernel
theorem dL_pipe_17 : decode cL_pipe 17 = .ok (.iconst 0, 1) := by decide +kernel
theorem dL_pipe_18 : decode cL_pipe 18 = .ok (.ireturn, 1) := by decide +kernel
theorem dL_owes_0 : decode cL_owes 0 = .ok (.aload_n 3, 1) := by decide +kernel
theorem dL_owes_1 : decode cL_owes 1 = .ok (.iconst 0, 1) := by decide +kernel
theorem dL_owes_2 : decode cL_owes 2 = .ok (.aload_n 0, 1) := by decide +kernel
theorem dL_owes_3 : decode cL_owes 3 = .ok (.iload_n 1, 1) := by decide +kernel
theorem dL_owes_4 : decode cL_owes 4 = .ok (.iload_n 2, 1) := by decide +kernel
theorem dL_owes_5 : decode cL_owes 5 = .ok (.invokevirtual 50, 3) := by decide +kernel
theorem dL_owes_8 : decode cL_owes 8 = .ok (.i2l, 1) := by decide +kernel
theorem dL_owes_9 : decode cL_owes 9 = .ok (.lastore, 1) := by decide +kernel
theorem dL_owes_10 : decode cL_owes 10 = .ok (.goto 7, 3) := by decide +kernel
theorem dL_owes_13 : decode cL_owes 13 = .ok (.astore 4, 2) := by decide +kernel
theorem dL_owes_15 : decode cL_owes 15 = .ok (.iconst 1, 1) := by decide +kernel
theorem dL_owes_16 : decode cL_owes 16 = .ok (.ireturn, 1) := by decide +kernel
theorem dL_owes_17 : decode cL_owes 17 = .ok (.iconst 0, 1) := by decide +kernel
theorem dL_owes_18 : decode cL_owes 18 = .ok (.ireturn, 1) := by decide +kernel
theorem dL_pass_0 : decode cL_pass 0 = .ok (.aload_n 2, 1) := by decide +kernel
theorem dL_pass_1 : decode cL_pass 1 = .ok (.iconst 0, 1) := by decide +kernel
theorem dL_pass_2 : decode cL_pass 2 = .ok (.aload_n 0, 1) := by decide +kernel
theorem dL_pass_3 : decode cL_pass 3 = .ok (.iload_n 1, 1) := by decide +kernel
theorem dL_pass_4 : decode cL_pass 4 = .ok (.invokevirtual 53, 3) := by decide +kernel
theorem dL_pass_7 : decode cL_pass 7 = .ok (.i2l, 1) := by decide +kernel
theorem dL_pass_8 : decode cL_pass 8 = .ok (.lastore, 1) := by decide +kernel
theorem dL_pass_9 : decode cL_pass 9 = .ok (.goto 6, 3) := by decide +kernel
theorem dL_pass_12 : decode cL_pass 12 = .ok (.astore_n 3, 1) := by decide +kernel
theorem dL_pass_13 : decode cL_pass 13 = .ok (.iconst 1, 1) := by decide +kernel
theorem dL_pass_14 : decode cL_pass 14 = .ok (.ireturn, 1) := by decide +kernel
theorem dL_pass_15 : decode cL_pass 15 = .ok (.iconst 0, 1) := by decide +kernel
theorem dL_pass_16 : decode cL_pass 16 = .ok (.ireturn, 1) := by decide +kernel
theorem dL_count_0 : decode cL_count 0 = .ok (.aload_n 2, 1) := by decide +kernel
theorem dL_count_1 : decode cL_count 1 = .ok (.iconst 0, 1) := by decide +kernel
theorem dL_count_2 : decode cL_count 2 = .ok (.aload_n 0, 1) := by decide +kernel
theorem dL_count_3 : decode cL_count 3 = .ok (.iload_n 1, 1) := by decide +kernel
theorem dL_count_4 : decode cL_count 4 = .ok (.invokevirtual 56, 3) := by decide +kernel
theorem dL_count_7 : decode cL_count 7 = .ok (.i2l, 1) := by decide +kernel
theorem dL_count_8 : decode cL_count 8 = .ok (.lastore, 1) := by decide +kernel
theorem dL_count_9 : decode cL_count 9 = .ok (.goto 6, 3) := by decide +kernel
theorem dL_count_12 : decode cL_count 12 = .ok (.astore_n 3, 1) := by decide +kernel
theorem dL_count_13 : decode cL_count 13 = .ok (.iconst 1, 1) := by decide +kernel
theorem dL_count_14 : decode cL_count 14 = .ok (.ireturn, 1) := by decide +kernel
theorem dL_count_15 : decode cL_count 15 = .ok (.iconst 0, 1) := by decide +kernel
theorem dL_count_16 : decode cL_count 16 = .ok (.ireturn, 1) := by decide +kernel
theorem dL_foresee_0 : decode cL_foresee 0 = .ok (.aload_n 3, 1) := by decide +kernel
theorem dL_foresee_1 : decode cL_foresee 1 = .ok (.iconst 0, 1) := by decide +kernel
theorem dL_foresee_2 : decode cL_foresee 2 = .ok (.aload_n 0, 1) := by decide +kernel
theorem dL_foresee_3 : decode cL_foresee 3 = .ok (.iload_n 1, 1) := by decide +kernel
theorem dL_foresee_4 : decode cL_foresee 4 = .ok (.iload_n 2, 1) := by decide +kernel
theorem dL_foresee_5 : decode cL_foresee 5 = .ok (.invokevirtual 59, 3) := by decide +kernel
theorem dL_foresee_8 : decode cL_foresee 8 = .ok (.i2l, 1) := by decide +kernel
theorem dL_foresee_9 : decode cL_foresee 9 = .ok (.lastore, 1) := by decide +kernel
theorem dL_foresee_10 : decode cL_foresee 10 = .ok (.goto 11, 3) := by decide +kernel
theorem dL_foresee_13 : decode cL_foresee 13 = .ok (.astore 4, 2) := by decide +kernel
theorem dL_foresee_15 : decode cL_foresee 15 = .ok (.iconst 1, 1) := by decide +kernel
theorem dL_foresee_16 : decode cL_foresee 16 = .ok (.ireturn, 1) := by decide +kernel
theorem dL_foresee_17 : decode cL_foresee 17 = .ok (.astore 4, 2) := by decide +kernel
theorem dL_foresee_19 : decode cL_foresee 19 = .ok (.iconst 2, 1) := by decide +kernel
theorem dL_foresee_20 : decode cL_foresee 20 = .ok (.ireturn, 1) := by decide +kernel
theorem dL_foresee_21 : decode cL_foresee 21 = .ok (.iconst 0, 1) := by decide +kernel
theorem dL_foresee_22 : decode cL_foresee 22 = .ok (.ireturn, 1) := by decide +kernel
theorem dL_lasts_0 : decode cL_lasts 0 = .ok (.aload_n 2, 1) := by decide +kernel
theorem dL_lasts_1 : decode cL_lasts 1 = .ok (.iconst 0, 1) := by decide +kernel
theorem dL_lasts_2 : decode cL_lasts 2 = .ok (.aload_n 0, 1) := by decide +kernel
theorem dL_lasts_3 : decode cL_lasts 3 = .ok (.iload_n 1, 1) := by decide +kernel
theorem dL_lasts_4 : decode cL_lasts 4 = .ok (.invokevirtual 62, 3) := by decide +kernel
theorem dL_lasts_7 : decode cL_lasts 7 = .ok (.i2l, 1) := by decide +kernel
theorem dL_lasts_8 : decode cL_lasts 8 = .ok (.lastore, 1) := by decide +kernel
theorem dL_lasts_9 : decode cL_lasts 9 = .ok (.goto 6, 3) := by decide +kernel
theorem dL_lasts_12 : decode cL_lasts 12 = .ok (.astore_n 3, 1) := by decide +kernel
theorem dL_lasts_13 : decode cL_lasts 13 = .ok (.iconst 1, 1) := by decide +kernel
theorem dL_lasts_14 : decode cL_lasts 14 = .ok (.ireturn, 1) := by decide +kernel
theorem dL_lasts_15 : decode cL_lasts 15 = .ok (.iconst 0, 1) := by decide +kernel
theorem dL_lasts_16 : decode cL_lasts 16 = .ok (.ireturn, 1) := by decide +kernel
theorem dL_needs_0 : decode cL_needs 0 = .ok (.aload_n 3, 1) := by decide +kernel
theorem dL_needs_1 : decode cL_needs 1 = .ok (.iconst 0, 1) := by decide +kernel
theorem dL_needs_2 : decode cL_needs 2 = .ok (.aload_n 0, 1) := by decide +kernel
theorem dL_needs_3 : decode cL_needs 3 = .ok (.iload_n 1, 1) := by decide +kernel
theorem dL_needs_4 : decode cL_needs 4 = .ok (.iload_n 2, 1) := by decide +kernel
theorem dL_needs_5 : decode cL_needs 5 = .ok (.invokevirtual 65, 3) := by decide +kernel
theorem dL_needs_8 : decode cL_needs 8 = .ok (.i2l, 1) := by decide +kernel
theorem dL_needs_9 : decode cL_needs 9 = .ok (.lastore, 1) := by decide +kernel
theorem dL_needs_10 : decode cL_needs 10 = .ok (.goto 11, 3) := by decide +kernel
theorem dL_needs_13 : decode cL_needs 13 = .ok (.astore 4, 2) := by decide +kernel
theorem dL_needs_15 : decode cL_needs 15 = .ok (.iconst 1, 1) := by decide +kernel
theorem dL_needs_16 : decode cL_needs 16 = .ok (.ireturn, 1) := by decide +kernel
theorem dL_needs_17 : decode cL_needs 17 = .ok (.astore 4, 2) := by decide +kernel
theorem dL_needs_19 : decode cL_needs 19 = .ok (.iconst 2, 1) := by decide +kernel
theorem dL_needs_20 : decode cL_needs 20 = .ok (.ireturn, 1) := by decide +kernel
theorem dL_needs_21 : decode cL_needs 21 = .ok (.iconst 0, 1) := by decide +kernel
theorem dL_needs_22 : decode cL_needs 22 = .ok (.ireturn, 1) := by decide +kernel
theorem dL_dirty_0 : decode cL_dirty 0 = .ok (.aload_n 2, 1) := by decide +kernel
theorem dL_dirty_1 : decode cL_dirty 1 = .ok (.iconst 0, 1) := by decide +kernel
theorem dL_dirty_2 : decode cL_dirty 2 = .ok (.aload_n 0, 1) := by decide +kernel
theorem dL_dirty_3 : decode cL_dirty 3 = .ok (.iload_n 1, 1) := by decide +kernel
theorem dL_dirty_4 : decode cL_dirty 4 = .ok (.invokevirtual 68, 3) := by decide +kernel
theorem dL_dirty_7 : decode cL_dirty 7 = .ok (.i2l, 1) := by decide +kernel
theorem dL_dirty_8 : decode cL_dirty 8 = .ok (.lastore, 1) := by decide +kernel
theorem dL_dirty_9 : decode cL_dirty 9 = .ok (.goto 6, 3) := by decide +kernel
theorem dL_dirty_12 : decode cL_dirty 12 = .ok (.astore_n 3, 1) := by decide +kernel
theorem dL_dirty_13 : decode cL_dirty 13 = .ok (.iconst 1, 1) := by decide +kernel
theorem dL_dirty_14 : decode cL_dirty 14 = .ok (.ireturn, 1) := by decide +kernel
theorem dL_dirty_15 : decode cL_dirty 15 = .ok (.iconst 0, 1) := by decide +kernel
theorem dL_dirty_16 : decode cL_dirty 16 = .ok (.ireturn, 1) := by decide +kernel
theorem dL_advise_0 : decode cL_advise 0 = .ok (.aload_n 2, 1) := by decide +kernel
theorem dL_advise_1 : decode cL_advise 1 = .ok (.iconst 0, 1) := by decide +kernel
theorem dL_advise_2 : decode cL_advise 2 = .ok (.aload_n 0, 1) := by decide +kernel
theorem dL_advise_3 : decode cL_advise 3 = .ok (.iload_n 1, 1) := by decide +kernel
theorem dL_advise_4 : decode cL_advise 4 = .ok (.invokevirtual 71, 3) := by decide +kernel
theorem dL_advise_7 : decode cL_advise 7 = .ok (.i2l, 1) := by decide +kernel
theorem dL_advise_8 : decode cL_advise 8 = .ok (.lastore, 1) := by decide +kernel
theorem dL_advise_9 : decode cL_advise 9 = .ok (.goto 6, 3) := by decide +kernel
theorem dL_advise_12 : decode cL_advise 12 = .ok (.astore_n 3, 1) := by decide +kernel
theorem dL_advise_13 : decode cL_advise 13 = .ok (.iconst 1, 1) := by decide +kernel
theorem dL_advise_14 : decode cL_advise 14 = .ok (.ireturn, 1) := by decide +kernel
theorem dL_advise_15 : decode cL_advise 15 = .ok (.iconst 0, 1) := by decide +kernel
theorem dL_advise_16 : decode cL_advise 16 = .ok (.ireturn, 1) := by decide +kernel
theorem dL_law_0 : decode cL_law 0 = .ok (.new 8, 3) := by decide +kernel
theorem dL_law_3 : decode cL_law 3 = .ok (.dup, 1) := by decide +kernel
theorem dL_law_4 : decode cL_law 4 = .ok (.invokespecial 74, 3) := by decide +kernel
theorem dL_law_7 : decode cL_law 7 = .ok (.astore_n 1, 1) := by decide +kernel
theorem dL_law_8 : decode cL_law 8 = .ok (.new 75, 3) := by decide +kernel
theorem dL_law_11 : decode cL_law 11 = .ok (.dup, 1) := by decide +kernel
theorem dL_law_12 : decode cL_law 12 = .ok (.invokespecial 77, 3) := by decide +kernel
theorem dL_law_15 : decode cL_law 15 = .ok (.astore_n 2, 1) := by decide +kernel
theorem dL_law_16 : decode cL_law 16 = .ok (.iconst 1, 1) := by decide +kernel
theorem dL_law_17 : decode cL_law 17 = .ok (.newarray .long, 2) := by decide +kernel
theorem dL_law_19 : decode cL_law 19 = .ok (.astore_n 3, 1) := by decide +kernel
theorem dL_law_20 : decode cL_law 20 = .ok (.iconst 0, 1) := by decide +kernel
theorem dL_law_21 : decode cL_law 21 = .ok (.istore 4, 2) := by decide +kernel
theorem dL_law_23 : decode cL_law 23 = .ok (.iload 4, 2) := by decide +kernel
theorem dL_law_25 : decode cL_law 25 = .ok (.aload_n 0, 1) := by decide +kernel
theorem dL_law_26 : decode cL_law 26 = .ok (.arraylength, 1) := by decide +kernel
theorem dL_law_27 : decode cL_law 27 = .ok (.iconst 5, 1) := by decide +kernel
theorem dL_law_28 : decode cL_law 28 = .ok (.isub, 1) := by decide +kernel
theorem dL_law_29 : decode cL_law 29 = .ok (.if_icmp .gt 1404, 3) := by decide +kernel
theorem dL_law_32 : decode cL_law 32 = .ok (.aload_n 0, 1) := by decide +kernel
theorem dL_law_33 : decode cL_law 33 = .ok (.iload 4, 2) := by decide +kernel
theorem dL_law_35 : decode cL_law 35 = .ok (.iaload, 1) := by decide +kernel
theorem dL_law_36 : decode cL_law 36 = .ok (.bipush 31, 2) := by decide +kernel
theorem dL_law_38 : decode cL_law 38 = .ok (.iand, 1) := by decide +kernel
theorem dL_law_39 : decode cL_law 39 = .ok (.tableswitch 1388 0 20 #[97, 177, 269, 337, 417, 508, 564, 632, 700, 768, 836, 904, 960, 1016, 1084, 1140, 1208, 1264, 1320, 1333, 1374], 97) := by decide +kernel
theorem dL_law_136 : decode cL_law 136 = .ok (.aload_n 1, 1) := by decide +kernel
theorem dL_law_137 : decode cL_law 137 = .ok (.aload_n 0, 1) := by decide +kernel
theorem dL_law_138 : decode cL_law 138 = .ok (.iload 4, 2) := by decide +kernel
theorem dL_law_140 : decode cL_law 140 = .ok (.iconst 1, 1) := by decide +kernel
theorem dL_law_141 : decode cL_law 141 = .ok (.iadd, 1) := by decide +kernel
theorem dL_law_142 : decode cL_law 142 = .ok (.iaload, 1) := by decide +kernel
theorem dL_law_143 : decode cL_law 143 = .ok (.aload_n 0, 1) := by decide +kernel
theorem dL_law_144 : decode cL_law 144 = .ok (.iload 4, 2) := by decide +kernel
theorem dL_law_146 : decode cL_law 146 = .ok (.iconst 2, 1) := by decide +kernel
theorem dL_law_147 : decode cL_law 147 = .ok (.iadd, 1) := by decide +kernel
theorem dL_law_148 : decode cL_law 148 = .ok (.iaload, 1) := by decide +kernel
theorem dL_law_149 : decode cL_law 149 = .ok (.aload_n 0, 1) := by decide +kernel
theorem dL_law_150 : decode cL_law 150 = .ok (.iload 4, 2) := by decide +kernel
theorem dL_law_152 : decode cL_law 152 = .ok (.iconst 3, 1) := by decide +kernel
theorem dL_law_153 : decode cL_law 153 = .ok (.iadd, 1) := by decide +kernel
theorem dL_law_154 : decode cL_law 154 = .ok (.iaload, 1) := by decide +kernel
theorem dL_law_155 : decode cL_law 155 = .ok (.aload_n 3, 1) := by decide +kernel
theorem dL_law_156 : decode cL_law 156 = .ok (.invokestatic 78, 3) := by decide +kernel
theorem dL_law_159 : decode cL_law 159 = .ok (.istore 5, 2) := by decide +kernel
theorem dL_law_161 : decode cL_law 161 = .ok (.aload_n 2, 1) := by decide +kernel
theorem dL_law_162 : decode cL_law 162 = .ok (.aload_n 0, 1) := by decide +kernel
theorem dL_law_163 : decode cL_law 163 = .ok (.iload 4, 2) := by decide +kernel
theorem dL_law_165 : decode cL_law 165 = .ok (.iconst 1, 1) := by decide +kernel
theorem dL_law_166 : decode cL_law 166 = .ok (.iadd, 1) := by decide +kernel
theorem dL_law_167 : decode cL_law 167 = .ok (.iaload, 1) := by decide +kernel
theorem dL_law_168 : decode cL_law 168 = .ok (.aload_n 0, 1) := by decide +kernel
theorem dL_law_169 : decode cL_law 169 = .ok (.iload 4, 2) := by decide +kernel
theorem dL_law_171 : decode cL_law 171 = .ok (.iconst 2, 1) := by decide +kernel
theorem dL_law_172 : decode cL_law 172 = .ok (.iadd, 1) := by decide +kernel
theorem dL_law_173 : decode cL_law 173 = .ok (.iaload, 1) := by decide +kernel
theorem dL_law_174 : decode cL_law 174 = .ok (.aload_n 0, 1) := by decide +kernel
theorem dL_law_175 : decode cL_law 175 = .ok (.iload 4, 2) := by decide +kernel
theorem dL_law_177 : decode cL_law 177 = .ok (.iconst 3, 1) := by decide +kernel
theorem dL_law_178 : decode cL_law 178 = .ok (.iadd, 1) := by decide +kernel
theorem dL_law_179 : decode cL_law 179 = .ok (.iaload, 1) := by decide +kernel
theorem dL_law_180 : decode cL_law 180 = .ok (.invokevirtual 83, 3) := by decide +kernel
theorem dL_law_183 : decode cL_law 183 = .ok (.istore 6, 2) := by decide +kernel
theorem dL_law_185 : decode cL_law 185 = .ok (.aload_n 2, 1) := by decide +kernel
theorem dL_law_186 : decode cL_law 186 = .ok (.invokevirtual 84, 3) := by decide +kernel
theorem dL_law_189 : decode cL_law 189 = .ok (.iload 5, 2) := by decide +kernel
theorem dL_law_191 : decode cL_law 191 = .ok (.if_icmp .eq 5, 3) := by decide +kernel
theorem dL_law_194 : decode cL_law 194 = .ok (.iconst 0, 1) := by decide +kernel
theorem dL_law_195 : decode cL_law 195 = .ok (.ireturn, 1) := by decide +kernel
theorem dL_law_196 : decode cL_law 196 = .ok (.iload 5, 2) := by decide +kernel
theorem dL_law_198 : decode cL_law 198 = .ok (.ifCond .ne 15, 3) := by decide +kernel
theorem dL_law_201 : decode cL_law 201 = .ok (.aload_n 3, 1) := by decide +kernel
theorem dL_law_202 : decode cL_law 202 = .ok (.iconst 0, 1) := by decide +kernel
theorem dL_law_203 : decode cL_law 203 = .ok (.laload, 1) := by decide +kernel
theorem dL_law_204 : decode cL_law 204 = .ok (.iload 6, 2) := by decide +kernel
theorem dL_law_206 : decode cL_law 206 = .ok (.i2l, 1) := by decide +kernel
theorem dL_law_207 : decode cL_law 207 = .ok (.lcmp, 1) := by decide +kernel
theorem dL_law_208 : decode cL_law 208 = .ok (.ifCond .eq 5, 3) := by decide +kernel
theorem dL_law_211 : decode cL_law 211 = .ok (.iconst 0, 1) := by decide +kernel
theorem dL_law_212 : decode cL_law 212 = .ok (.ireturn, 1) := by decide +kernel
theorem dL_law_213 : decode cL_law 213 = .ok (.goto 1214, 3) := by decide +kernel
theorem dL_law_216 : decode cL_law 216 = .ok (.aload_n 1, 1) := by decide +kernel
theorem dL_law_217 : decode cL_law 217 = .ok (.aload_n 0, 1) := by decide +kernel
theorem dL_law_218 : decode cL_law 218 = .ok (.iload 4, 2) := by decide +kernel
theorem dL_law_220 : decode cL_law 220 = .ok (.iconst 1, 1) := by decide +kernel
theorem dL_law_221 : decode cL_law 221 = .ok (.iadd, 1) := by decide +kernel
theorem dL_law_222 : decode cL_law 222 = .ok (.iaload, 1) := by decide +kernel
theorem dL_law_223 : decode cL_law 223 = .ok (.aload_n 0, 1) := by decide +kernel
theorem dL_law_224 : decode cL_law 224 = .ok (.iload 4, 2) := by decide +kernel
theorem dL_law_226 : decode cL_law 226 = .ok (.iconst 2, 1) := by decide +kernel
theorem dL_law_227 : decode cL_law 227 = .ok (.iadd, 1) := by decide +kernel
theorem dL_law_228 : decode cL_law 228 = .ok (.iaload, 1) := by decide +kernel
theorem dL_law_229 : decode cL_law 229 = .ok (.aload_n 0, 1) := by decide +kernel
theorem dL_law_230 : decode cL_law 230 = .ok (.iload 4, 2) := by decide +kernel
theorem dL_law_232 : decode cL_law 232 = .ok (.iconst 3, 1) := by decide +kernel
theorem dL_law_233 : decode cL_law 233 = .ok (.iadd, 1) := by decide +kernel
theorem dL_law_234 : decode cL_law 234 = .ok (.iaload, 1) := by decide +kernel
theorem dL_law_235 : decode cL_law 235 = .ok (.aload_n 0, 1) := by decide +kernel
theorem dL_law_236 : decode cL_law 236 = .ok (.iload 4, 2) := by decide +kernel
theorem dL_law_238 : decode cL_law 238 = .ok (.iconst 4, 1) := by decide +kernel
theorem dL_law_239 : decode cL_law 239 = .ok (.iadd, 1) := by decide +kernel
theorem dL_law_240 : decode cL_law 240 = .ok (.iaload, 1) := by decide +kernel
theorem dL_law_241 : decode cL_law 241 = .ok (.aload_n 3, 1) := by decide +kernel
theorem dL_law_242 : decode cL_law 242 = .ok (.invokestatic 88, 3) := by decide +kernel
theorem dL_law_245 : decode cL_law 245 = .ok (.istore 5, 2) := by decide +kernel
theorem dL_law_247 : decode cL_law 247 = .ok (.aload_n 2, 1) := by decide +kernel
theorem dL_law_248 : decode cL_law 248 = .ok (.aload_n 0, 1) := by decide +kernel
theorem dL_law_249 : decode cL_law 249 = .ok (.iload 4, 2) := by decide +kernel
theorem dL_law_251 : decode cL_law 251 = .ok (.iconst 1, 1) := by decide +kernel
theorem dL_law_252 : decode cL_law 252 = .ok (.iadd, 1) := by decide +kernel
theorem dL_law_253 : decode cL_law 253 = .ok (.iaload, 1) := by decide +kernel
theorem dL_law_254 : decode cL_law 254 = .ok (.aload_n 0, 1) := by decide +kernel
theorem dL_law_255 : decode cL_law 255 = .ok (.iload 4, 2) := by decide +kernel
theorem dL_law_257 : decode cL_law 257 = .ok (.iconst 2, 1) := by decide +kernel
theorem dL_law_258 : decode cL_law 258 = .ok (.iadd, 1) := by decide +kernel
theorem dL_law_259 : decode cL_law 259 = .ok (.iaload, 1) := by decide +kernel
theorem dL_law_260 : decode cL_law 260 = .ok (.aload_n 0, 1) := by decide +kernel
theorem dL_law_261 : decode cL_law 261 = .ok (.iload 4, 2) := by decide +kernel
theorem dL_law_263 : decode cL_law 263 = .ok (.iconst 3, 1) := by decide +kernel
theorem dL_law_264 : decode cL_law 264 = .ok (.iadd, 1) := by decide +kernel
theorem dL_law_265 : decode cL_law 265 = .ok (.iaload, 1) := by decide +kernel
theorem dL_law_266 : decode cL_law 266 = .ok (.aload_n 0, 1) := by decide +kernel
theorem dL_law_267 : decode cL_law 267 = .ok (.iload 4, 2) := by decide +kernel
theorem dL_law_269 : decode cL_law 269 = .ok (.iconst 4, 1) := by decide +kernel
theorem dL_law_270 : decode cL_law 270 = .ok (.iadd, 1) := by decide +kernel
theorem dL_law_271 : decode cL_law 271 = .ok (.iaload, 1) := by decide +kernel
theorem dL_law_272 : decode cL_law 272 = .ok (.invokevirtual 91, 3) := by decide +kernel
theorem dL_law_275 : decode cL_law 275 = .ok (.istore 6, 2) := by decide +kernel
theorem dL_law_277 : decode cL_law 277 = .ok (.aload_n 2, 1) := by decide +kernel
theorem dL_law_278 : decode cL_law 278 = .ok (.invokevirtual 84, 3) := by decide +kernel
theorem dL_law_281 : decode cL_law 281 = .ok (.iload 5, 2) := by decide +kernel
theorem dL_law_283 : decode cL_law 283 = .ok (.if_icmp .eq 5, 3) := by decide +kernel
theorem dL_law_286 : decode cL_law 286 = .ok (.iconst 0, 1) := by decide +kernel
theorem dL_law_287 : decode cL_law 287 = .ok (.ireturn, 1) := by decide +kernel
theorem dL_law_288 : decode cL_law 288 = .ok (.iload 5, 2) := by decide +kernel
theorem dL_law_290 : decode cL_law 290 = .ok (.ifCond .ne 15, 3) := by decide +kernel
theorem dL_law_293 : decode cL_law 293 = .ok (.aload_n 3, 1) := by decide +kernel
theorem dL_law_294 : decode cL_law 294 = .ok (.iconst 0, 1) := by decide +kernel
theorem dL_law_295 : decode cL_law 295 = .ok (.laload, 1) := by decide +kernel
theorem dL_law_296 : decode cL_law 296 = .ok (.iload 6, 2) := by decide +kernel
theorem dL_law_298 : decode cL_law 298 = .ok (.i2l, 1) := by decide +kernel
theorem dL_law_299 : decode cL_law 299 = .ok (.lcmp, 1) := by decide +kernel
theorem dL_law_300 : decode cL_law 300 = .ok (.ifCond .eq 5, 3) := by decide +kernel
theorem dL_law_303 : decode cL_law 303 = .ok (.iconst 0, 1) := by decide +kernel
theorem dL_law_304 : decode cL_law 304 = .ok (.ireturn, 1) := by decide +kernel
theorem dL_law_305 : decode cL_law 305 = .ok (.goto 1122, 3) := by decide +kernel
theorem dL_law_308 : decode cL_law 308 = .ok (.aload_n 1, 1) := by decide +kernel
theorem dL_law_309 : decode cL_law 309 = .ok (.aload_n 0, 1) := by decide +kernel
theorem dL_law_310 : decode cL_law 310 = .ok (.iload 4, 2) := by decide +kernel
theorem dL_law_312 : decode cL_law 312 = .ok (.iconst 1, 1) := by decide +kernel
theorem dL_law_313 : decode cL_law 313 = .ok (.iadd, 1) := by decide +kernel
theorem dL_law_314 : decode cL_law 314 = .ok (.iaload, 1) := by decide +kernel
theorem dL_law_315 : decode cL_law 315 = .ok (.aload_n 0, 1) := by decide +kernel
theorem dL_law_316 : decode cL_law 316 = .ok (.iload 4, 2) := by decide +kernel
theorem dL_law_318 : decode cL_law 318 = .ok (.iconst 2, 1) := by decide +kernel
theorem dL_law_319 : decode cL_law 319 = .ok (.iadd, 1) := by decide +kernel
theorem dL_law_320 : decode cL_law 320 = .ok (.iaload, 1) := by decide +kernel
theorem dL_law_321 : decode cL_law 321 = .ok (.aload_n 3, 1) := by decide +kernel
theorem dL_law_322 : decode cL_law 322 = .ok (.invokestatic 92, 3) := by decide +kernel
theorem dL_law_325 : decode cL_law 325 = .ok (.istore 5, 2) := by decide +kernel
theorem dL_law_327 : decode cL_law 327 = .ok (.aload_n 2, 1) := by decide +kernel
theorem dL_law_328 : decode cL_law 328 = .ok (.aload_n 0, 1) := by decide +kernel
theorem dL_law_329 : decode cL_law 329 = .ok (.iload 4, 2) := by decide +kernel
theorem dL_law_331 : decode cL_law 331 = .ok (.iconst 1, 1) := by decide +kernel
theorem dL_law_332 : decode cL_law 332 = .ok (.iadd, 1) := by decide +kernel
theorem dL_law_333 : decode cL_law 333 = .ok (.iaload, 1) := by decide +kernel
theorem dL_law_334 : decode cL_law 334 = .ok (.aload_n 0, 1) := by decide +kernel
theorem dL_law_335 : decode cL_law 335 = .ok (.iload 4, 2) := by decide +kernel
theorem dL_law_337 : decode cL_law 337 = .ok (.iconst 2, 1) := by decide +kernel
theorem dL_law_338 : decode cL_law 338 = .ok (.iadd, 1) := by decide +kernel
theorem dL_law_339 : decode cL_law 339 = .ok (.iaload, 1) := by decide +kernel
theorem dL_law_340 : decode cL_law 340 = .ok (.invokevirtual 95, 3) := by decide +kernel
theorem dL_law_343 : decode cL_law 343 = .ok (.istore 6, 2) := by decide +kernel
theorem dL_law_345 : decode cL_law 345 = .ok (.aload_n 2, 1) := by decide +kernel
theorem dL_law_346 : decode cL_law 346 = .ok (.invokevirtual 84, 3) := by decide +kernel
theorem dL_law_349 : decode cL_law 349 = .ok (.iload 5, 2) := by decide +kernel
theorem dL_law_351 : decode cL_law 351 = .ok (.if_icmp .eq 5, 3) := by decide +kernel
theorem dL_law_354 : decode cL_law 354 = .ok (.iconst 0, 1) := by decide +kernel
theorem dL_law_355 : decode cL_law 355 = .ok (.ireturn, 1) := by decide +kernel
theorem dL_law_356 : decode cL_law 356 = .ok (.iload 5, 2) := by decide +kernel
theorem dL_law_358 : decode cL_law 358 = .ok (.ifCond .ne 15, 3) := by decide +kernel
theorem dL_law_361 : decode cL_law 361 = .ok (.aload_n 3, 1) := by decide +kernel
theorem dL_law_362 : decode cL_law 362 = .ok (.iconst 0, 1) := by decide +kernel
theorem dL_law_363 : decode cL_law 363 = .ok (.laload, 1) := by decide +kernel
theorem dL_law_364 : decode cL_law 364 = .ok (.iload 6, 2) := by decide +kernel
theorem dL_law_366 : decode cL_law 366 = .ok (.i2l, 1) := by decide +kernel
theorem dL_law_367 : decode cL_law 367 = .ok (.lcmp, 1) := by decide +kernel
theorem dL_law_368 : decode cL_law 368 = .ok (.ifCond .eq 5, 3) := by decide +kernel
theorem dL_law_371 : decode cL_law 371 = .ok (.iconst 0, 1) := by decide +kernel
theorem dL_law_372 : decode cL_law 372 = .ok (.ireturn, 1) := by decide +kernel
theorem dL_law_373 : decode cL_law 373 = .ok (.goto 1054, 3) := by decide +kernel
theorem dL_law_376 : decode cL_law 376 = .ok (.aload_n 1, 1) := by decide +kernel
theorem dL_law_377 : decode cL_law 377 = .ok (.aload_n 0, 1) := by decide +kernel
theorem dL_law_378 : decode cL_law 378 = .ok (.iload 4, 2) := by decide +kernel
theorem dL_law_380 : decode cL_law 380 = .ok (.iconst 1, 1) := by decide +kernel
theorem dL_law_381 : decode cL_law 381 = .ok (.iadd, 1) := by decide +kernel
theorem dL_law_382 : decode cL_law 382 = .ok (.iaload, 1) := by decide +kernel
theorem dL_law_383 : decode cL_law 383 = .ok (.aload_n 0, 1) := by decide +kernel
theorem dL_law_384 : decode cL_law 384 = .ok (.iload 4, 2) := by decide +kernel
theorem dL_law_386 : decode cL_law 386 = .ok (.iconst 2, 1) := by decide +kernel
theorem dL_law_387 : decode cL_law 387 = .ok (.iadd, 1) := by decide +kernel
theorem dL_law_388 : decode cL_law 388 = .ok (.iaload, 1) := by decide +kernel
theorem dL_law_389 : decode cL_law 389 = .ok (.aload_n 0, 1) := by decide +kernel
theorem dL_law_390 : decode cL_law 390 = .ok (.iload 4, 2) := by decide +kernel
theorem dL_law_392 : decode cL_law 392 = .ok (.iconst 3, 1) := by decide +kernel
theorem dL_law_393 : decode cL_law 393 = .ok (.iadd, 1) := by decide +kernel
theorem dL_law_394 : decode cL_law 394 = .ok (.iaload, 1) := by decide +kernel
theorem dL_law_395 : decode cL_law 395 = .ok (.aload_n 3, 1) := by decide +kernel
theorem dL_law_396 : decode cL_law 396 = .ok (.invokestatic 96, 3) := by decide +kernel
theorem dL_law_399 : decode cL_law 399 = .ok (.istore 5, 2) := by decide +kernel
theorem dL_law_401 : decode cL_law 401 = .ok (.aload_n 2, 1) := by decide +kernel
theorem dL_law_402 : decode cL_law 402 = .ok (.aload_n 0, 1) := by decide +kernel
theorem dL_law_403 : decode cL_law 403 = .ok (.iload 4, 2) := by decide +kernel
theorem dL_law_405 : decode cL_law 405 = .ok (.iconst 1, 1) := by decide +kernel
theorem dL_law_406 : decode cL_law 406 = .ok (.iadd, 1) := by decide +kernel
theorem dL_law_407 : decode cL_law 407 = .ok (.iaload, 1) := by decide +kernel
theorem dL_law_408 : decode cL_law 408 = .ok (.aload_n 0, 1) := by decide +kernel
theorem dL_law_409 : decode cL_law 409 = .ok (.iload 4, 2) := by decide +kernel
theorem dL_law_411 : decode cL_law 411 = .ok (.iconst 2, 1) := by decide +kernel
theorem dL_law_412 : decode cL_law 412 = .ok (.iadd, 1) := by decide +kernel
theorem dL_law_413 : decode cL_law 413 = .ok (.iaload, 1) := by decide +kernel
theorem dL_law_414 : decode cL_law 414 = .ok (.aload_n 0, 1) := by decide +kernel
theorem dL_law_415 : decode cL_law 415 = .ok (.iload 4, 2) := by decide +kernel
theorem dL_law_417 : decode cL_law 417 = .ok (.iconst 3, 1) := by decide +kernel
theorem dL_law_418 : decode cL_law 418 = .ok (.iadd, 1) := by decide +kernel
theorem dL_law_419 : decode cL_law 419 = .ok (.iaload, 1) := by decide +kernel
theorem dL_law_420 : decode cL_law 420 = .ok (.invokevirtual 98, 3) := by decide +kernel
theorem dL_law_423 : decode cL_law 423 = .ok (.istore 6, 2) := by decide +kernel
theorem dL_law_425 : decode cL_law 425 = .ok (.aload_n 2, 1) := by decide +kernel
theorem dL_law_426 : decode cL_law 426 = .ok (.invokevirtual 84, 3) := by decide +kernel
theorem dL_law_429 : decode cL_law 429 = .ok (.iload 5, 2) := by decide +kernel
theorem dL_law_431 : decode cL_law 431 = .ok (.if_icmp .eq 5, 3) := by decide +kernel
theorem dL_law_434 : decode cL_law 434 = .ok (.iconst 0, 1) := by decide +kernel
theorem dL_law_435 : decode cL_law 435 = .ok (.ireturn, 1) := by decide +kernel
theorem dL_law_436 : decode cL_law 436 = .ok (.iload 5, 2) := by decide +kernel
theorem dL_law_438 : decode cL_law 438 = .ok (.ifCond .ne 15, 3) := by decide +kernel
theorem dL_law_441 : decode cL_law 441 = .ok (.aload_n 3, 1) := by decide +kernel
theorem dL_law_442 : decode cL_law 442 = .ok (.iconst 0, 1) := by decide +kernel
theorem dL_law_443 : decode cL_law 443 = .ok (.laload, 1) := by decide +kernel
theorem dL_law_444 : decode cL_law 444 = .ok (.iload 6, 2) := by decide +kernel
theorem dL_law_446 : decode cL_law 446 = .ok (.i2l, 1) := by decide +kernel
theorem dL_law_447 : decode cL_law 447 = .ok (.lcmp, 1) := by decide +kernel
theorem dL_law_448 : decode cL_law 448 = .ok (.ifCond .eq 5, 3) := by decide +kernel
theorem dL_law_451 : decode cL_law 451 = .ok (.iconst 0, 1) := by decide +kernel
theorem dL_law_452 : decode cL_law 452 = .ok (.ireturn, 1) := by decide +kernel
theorem dL_law_453 : decode cL_law 453 = .ok (.goto 974, 3) := by decide +kernel
theorem dL_law_456 : decode cL_law 456 = .ok (.aload_n 1, 1) := by decide +kernel
theorem dL_law_457 : decode cL_law 457 = .ok (.aload_n 0, 1) := by decide +kernel
theorem dL_law_458 : decode cL_law 458 = .ok (.iload 4, 2) := by decide +kernel
theorem dL_law_460 : decode cL_law 460 = .ok (.iconst 1, 1) := by decide +kernel
theorem dL_law_461 : decode cL_law 461 = .ok (.iadd, 1) := by decide +kernel
theorem dL_law_462 : decode cL_law 462 = .ok (.iaload, 1) := by decide +kernel
theorem dL_law_463 : decode cL_law 463 = .ok (.aload_n 0, 1) := by decide +kernel
theorem dL_law_464 : decode cL_law 464 = .ok (.iload 4, 2) := by decide +kernel
theorem dL_law_466 : decode cL_law 466 = .ok (.iconst 2, 1) := by decide +kernel
theorem dL_law_467 : decode cL_law 467 = .ok (.iadd, 1) := by decide +kernel
theorem dL_law_468 : decode cL_law 468 = .ok (.iaload, 1) := by decide +kernel
theorem dL_law_469 : decode cL_law 469 = .ok (.ifCond .eq 7, 3) := by decide +kernel
theorem dL_law_472 : decode cL_law 472 = .ok (.iconst 1, 1) := by decide +kernel
theorem dL_law_473 : decode cL_law 473 = .ok (.goto 4, 3) := by decide +kernel
theorem dL_law_476 : decode cL_law 476 = .ok (.iconst 0, 1) := by decide +kernel
theorem dL_law_477 : decode cL_law 477 = .ok (.aload_n 3, 1) := by decide +kernel
theorem dL_law_478 : decode cL_law 478 = .ok (.invokestatic 99, 3) := by decide +kernel
theorem dL_law_481 : decode cL_law 481 = .ok (.istore 5, 2) := by decide +kernel
theorem dL_law_483 : decode cL_law 483 = .ok (.aload_n 2, 1) := by decide +kernel
theorem dL_law_484 : decode cL_law 484 = .ok (.aload_n 0, 1) := by decide +kernel
theorem dL_law_485 : decode cL_law 485 = .ok (.iload 4, 2) := by decide +kernel
theorem dL_law_487 : decode cL_law 487 = .ok (.iconst 1, 1) := by decide +kernel
theorem dL_law_488 : decode cL_law 488 = .ok (.iadd, 1) := by decide +kernel
theorem dL_law_489 : decode cL_law 489 = .ok (.iaload, 1) := by decide +kernel
theorem dL_law_490 : decode cL_law 490 = .ok (.aload_n 0, 1) := by decide +kernel
theorem dL_law_491 : decode cL_law 491 = .ok (.iload 4, 2) := by decide +kernel
theorem dL_law_493 : decode cL_law 493 = .ok (.iconst 2, 1) := by decide +kernel
theorem dL_law_494 : decode cL_law 494 = .ok (.iadd, 1) := by decide +kernel
theorem dL_law_495 : decode cL_law 495 = .ok (.iaload, 1) := by decide +kernel
theorem dL_law_496 : decode cL_law 496 = .ok (.ifCond .eq 7, 3) := by decide +kernel
theorem dL_law_499 : decode cL_law 499 = .ok (.iconst 1, 1) := by decide +kernel
theorem dL_law_500 : decode cL_law 500 = .ok (.goto 4, 3) := by decide +kernel
theorem dL_law_503 : decode cL_law 503 = .ok (.iconst 0, 1) := by decide +kernel
theorem dL_law_504 : decode cL_law 504 = .ok (.invokevirtual 102, 3) := by decide +kernel
theorem dL_law_507 : decode cL_law 507 = .ok (.istore 6, 2) := by decide +kernel
theorem dL_law_509 : decode cL_law 509 = .ok (.aload_n 2, 1) := by decide +kernel
theorem dL_law_510 : decode cL_law 510 = .ok (.invokevirtual 84, 3) := by decide +kernel
theorem dL_law_513 : decode cL_law 513 = .ok (.iload 5, 2) := by decide +kernel
theorem dL_law_515 : decode cL_law 515 = .ok (.if_icmp .eq 5, 3) := by decide +kernel
theorem dL_law_518 : decode cL_law 518 = .ok (.iconst 0, 1) := by decide +kernel
theorem dL_law_519 : decode cL_law 519 = .ok (.ireturn, 1) := by decide +kernel
theorem dL_law_520 : decode cL_law 520 = .ok (.iload 5, 2) := by decide +kernel
theorem dL_law_522 : decode cL_law 522 = .ok (.ifCond .ne 22, 3) := by decide +kernel
theorem dL_law_525 : decode cL_law 525 = .ok (.aload_n 3, 1) := by decide +kernel
theorem dL_law_526 : decode cL_law 526 = .ok (.iconst 0, 1) := by decide +kernel
theorem dL_law_527 : decode cL_law 527 = .ok (.laload, 1) := by decide +kernel
theorem dL_law_528 : decode cL_law 528 = .ok (.iload 6, 2) := by decide +kernel
theorem dL_law_530 : decode cL_law 530 = .ok (.ifCond .eq 7, 3) := by decide +kernel
theorem dL_law_533 : decode cL_law 533 = .ok (.lconst 1, 1) := by decide +kernel
theorem dL_law_534 : decode cL_law 534 = .ok (.goto 4, 3) := by decide +kernel
theorem dL_law_537 : decode cL_law 537 = .ok (.lconst 0, 1) := by decide +kernel
theorem dL_law_538 : decode cL_law 538 = .ok (.lcmp, 1) := by decide +kernel
theorem dL_law_539 : decode cL_law 539 = .ok (.ifCond .eq 5, 3) := by decide +kernel
theorem dL_law_542 : decode cL_law 542 = .ok (.iconst 0, 1) := by decide +kernel
theorem dL_law_543 : decode cL_law 543 = .ok (.ireturn, 1) := by decide +kernel
theorem dL_law_544 : decode cL_law 544 = .ok (.goto 883, 3) := by decide +kernel
theorem dL_law_547 : decode cL_law 547 = .ok (.aload_n 1, 1) := by decide +kernel
theorem dL_law_548 : decode cL_law 548 = .ok (.aload_n 0, 1) := by decide +kernel
theorem dL_law_549 : decode cL_law 549 = .ok (.iload 4, 2) := by decide +kernel
theorem dL_law_551 : decode cL_law 551 = .ok (.iconst 1, 1) := by decide +kernel
theorem dL_law_552 : decode cL_law 552 = .ok (.iadd, 1) := by decide +kernel
theorem dL_law_553 : decode cL_law 553 = .ok (.iaload, 1) := by decide +kernel
theorem dL_law_554 : decode cL_law 554 = .ok (.aload_n 3, 1) := by decide +kernel
theorem dL_law_555 : decode cL_law 555 = .ok (.invokestatic 103, 3) := by decide +kernel
theorem dL_law_558 : decode cL_law 558 = .ok (.istore 5, 2) := by decide +kernel
theorem dL_law_560 : decode cL_law 560 = .ok (.aload_n 2, 1) := by decide +kernel
theorem dL_law_561 : decode cL_law 561 = .ok (.aload_n 0, 1) := by decide +kernel
theorem dL_law_562 : decode cL_law 562 = .ok (.iload 4, 2) := by decide +kernel
theorem dL_law_564 : decode cL_law 564 = .ok (.iconst 1, 1) := by decide +kernel
theorem dL_law_565 : decode cL_law 565 = .ok (.iadd, 1) := by decide +kernel
theorem dL_law_566 : decode cL_law 566 = .ok (.iaload, 1) := by decide +kernel
theorem dL_law_567 : decode cL_law 567 = .ok (.invokevirtual 106, 3) := by decide +kernel
theorem dL_law_570 : decode cL_law 570 = .ok (.istore 6, 2) := by decide +kernel
theorem dL_law_572 : decode cL_law 572 = .ok (.aload_n 2, 1) := by decide +kernel
theorem dL_law_573 : decode cL_law 573 = .ok (.invokevirtual 84, 3) := by decide +kernel
theorem dL_law_576 : decode cL_law 576 = .ok (.iload 5, 2) := by decide +kernel
theorem dL_law_578 : decode cL_law 578 = .ok (.if_icmp .eq 5, 3) := by decide +kernel
theorem dL_law_581 : decode cL_law 581 = .ok (.iconst 0, 1) := by decide +kernel
theorem dL_law_582 : decode cL_law 582 = .ok (.ireturn, 1) := by decide +kernel
theorem dL_law_583 : decode cL_law 583 = .ok (.iload 5, 2) := by decide +kernel
theorem dL_law_585 : decode cL_law 585 = .ok (.ifCond .ne 15, 3) := by decide +kernel
theorem dL_law_588 : decode cL_law 588 = .ok (.aload_n 3, 1) := by decide +kernel
theorem dL_law_589 : decode cL_law 589 = .ok (.iconst 0, 1) := by decide +kernel
theorem dL_law_590 : decode cL_law 590 = .ok (.laload, 1) := by decide +kernel
theorem dL_law_591 : decode cL_law 591 = .ok (.iload 6, 2) := by decide +kernel
theorem dL_law_593 : decode cL_law 593 = .ok (.i2l, 1) := by decide +kernel
theorem dL_law_594 : decode cL_law 594 = .ok (.lcmp, 1) := by decide +kernel
theorem dL_law_595 : decode cL_law 595 = .ok (.ifCond .eq 5, 3) := by decide +kernel
theorem dL_law_598 : decode cL_law 598 = .ok (.iconst 0, 1) := by decide +kernel
theorem dL_law_599 : decode cL_law 599 = .ok (.ireturn, 1) := by decide +kernel
theorem dL_law_600 : decode cL_law 600 = .ok (.goto 827, 3) := by decide +kernel
theorem dL_law_603 : decode cL_law 603 = .ok (.aload_n 1, 1) := by decide +kernel
theorem dL_law_604 : decode cL_law 604 = .ok (.aload_n 0, 1) := by decide +kernel
theorem dL_law_605 : decode cL_law 605 = .ok (.iload 4, 2) := by decide +kernel
theorem dL_law_607 : decode cL_law 607 = .ok (.iconst 1, 1) := by decide +kernel
theorem dL_law_608 : decode cL_law 608 = .ok (.iadd, 1) := by decide +kernel
theorem dL_law_609 : decode cL_law 609 = .ok (.iaload, 1) := by decide +kernel
theorem dL_law_610 : decode cL_law 610 = .ok (.aload_n 0, 1) := by decide +kernel
theorem dL_law_611 : decode cL_law 611 = .ok (.iload 4, 2) := by decide +kernel
theorem dL_law_613 : decode cL_law 613 = .ok (.iconst 2, 1) := by decide +kernel
theorem dL_law_614 : decode cL_law 614 = .ok (.iadd, 1) := by decide +kernel
theorem dL_law_615 : decode cL_law 615 = .ok (.iaload, 1) := by decide +kernel
theorem dL_law_616 : decode cL_law 616 = .ok (.aload_n 3, 1) := by decide +kernel
theorem dL_law_617 : decode cL_law 617 = .ok (.invokestatic 107, 3) := by decide +kernel
theorem dL_law_620 : decode cL_law 620 = .ok (.istore 5, 2) := by decide +kernel
theorem dL_law_622 : decode cL_law 622 = .ok (.aload_n 2, 1) := by decide +kernel
theorem dL_law_623 : decode cL_law 623 = .ok (.aload_n 0, 1) := by decide +kernel
theorem dL_law_624 : decode cL_law 624 = .ok (.iload 4, 2) := by decide +kernel
theorem dL_law_626 : decode cL_law 626 = .ok (.iconst 1, 1) := by decide +kernel
theorem dL_law_627 : decode cL_law 627 = .ok (.iadd, 1) := by decide +kernel
theorem dL_law_628 : decode cL_law 628 = .ok (.iaload, 1) := by decide +kernel
theorem dL_law_629 : decode cL_law 629 = .ok (.aload_n 0, 1) := by decide +kernel
theorem dL_law_630 : decode cL_law 630 = .ok (.iload 4, 2) := by decide +kernel
theorem dL_law_632 : decode cL_law 632 = .ok (.iconst 2, 1) := by decide +kernel
theorem dL_law_633 : decode cL_law 633 = .ok (.iadd, 1) := by decide +kernel
theorem dL_law_634 : decode cL_law 634 = .ok (.iaload, 1) := by decide +kernel
theorem dL_law_635 : decode cL_law 635 = .ok (.invokevirtual 109, 3) := by decide +kernel
theorem dL_law_638 : decode cL_law 638 = .ok (.istore 6, 2) := by decide +kernel
theorem dL_law_640 : decode cL_law 640 = .ok (.aload_n 2, 1) := by decide +kernel
theorem dL_law_641 : decode cL_law 641 = .ok (.invokevirtual 84, 3) := by decide +kernel
theorem dL_law_644 : decode cL_law 644 = .ok (.iload 5, 2) := by decide +kernel
theorem dL_law_646 : decode cL_law 646 = .ok (.if_icmp .eq 5, 3) := by decide +kernel
theorem dL_law_649 : decode cL_law 649 = .ok (.iconst 0, 1) := by decide +kernel
theorem dL_law_650 : decode cL_law 650 = .ok (.ireturn, 1) := by decide +kernel
theorem dL_law_651 : decode cL_law 651 = .ok (.iload 5, 2) := by decide +kernel
theorem dL_law_653 : decode cL_law 653 = .ok (.ifCond .ne 15, 3) := by decide +kernel
theorem dL_law_656 : decode cL_law 656 = .ok (.aload_n 3, 1) := by decide +kernel
theorem dL_law_657 : decode cL_law 657 = .ok (.iconst 0, 1) := by decide +kernel
theorem dL_law_658 : decode cL_law 658 = .ok (.laload, 1) := by decide +kernel
theorem dL_law_659 : decode cL_law 659 = .ok (.iload 6, 2) := by decide +kernel
theorem dL_law_661 : decode cL_law 661 = .ok (.i2l, 1) := by decide +kernel
theorem dL_law_662 : decode cL_law 662 = .ok (.lcmp, 1) := by decide +kernel
theorem dL_law_663 : decode cL_law 663 = .ok (.ifCond .eq 5, 3) := by decide +kernel
theorem dL_law_666 : decode cL_law 666 = .ok (.iconst 0, 1) := by decide +kernel
theorem dL_law_667 : decode cL_law 667 = .ok (.ireturn, 1) := by decide +kernel
theorem dL_law_668 : decode cL_law 668 = .ok (.goto 759, 3) := by decide +kernel
theorem dL_law_671 : decode cL_law 671 = .ok (.aload_n 1, 1) := by decide +kernel
theorem dL_law_672 : decode cL_law 672 = .ok (.aload_n 0, 1) := by decide +kernel
theorem dL_law_673 : decode cL_law 673 = .ok (.iload 4, 2) := by decide +kernel
theorem dL_law_675 : decode cL_law 675 = .ok (.iconst 1, 1) := by decide +kernel
theorem dL_law_676 : decode cL_law 676 = .ok (.iadd, 1) := by decide +kernel
theorem dL_law_677 : decode cL_law 677 = .ok (.iaload, 1) := by decide +kernel
theorem dL_law_678 : decode cL_law 678 = .ok (.aload_n 0, 1) := by decide +kernel
theorem dL_law_679 : decode cL_law 679 = .ok (.iload 4, 2) := by decide +kernel
theorem dL_law_681 : decode cL_law 681 = .ok (.iconst 2, 1) := by decide +kernel
theorem dL_law_682 : decode cL_law 682 = .ok (.iadd, 1) := by decide +kernel
theorem dL_law_683 : decode cL_law 683 = .ok (.iaload, 1) := by decide +kernel
theorem dL_law_684 : decode cL_law 684 = .ok (.aload_n 3, 1) := by decide +kernel
theorem dL_law_685 : decode cL_law 685 = .ok (.invokestatic 110, 3) := by decide +kernel
theorem dL_law_688 : decode cL_law 688 = .ok (.istore 5, 2) := by decide +kernel
theorem dL_law_690 : decode cL_law 690 = .ok (.aload_n 2, 1) := by decide +kernel
theorem dL_law_691 : decode cL_law 691 = .ok (.aload_n 0, 1) := by decide +kernel
theorem dL_law_692 : decode cL_law 692 = .ok (.iload 4, 2) := by decide +kernel
theorem dL_law_694 : decode cL_law 694 = .ok (.iconst 1, 1) := by decide +kernel
theorem dL_law_695 : decode cL_law 695 = .ok (.iadd, 1) := by decide +kernel
theorem dL_law_696 : decode cL_law 696 = .ok (.iaload, 1) := by decide +kernel
theorem dL_law_697 : decode cL_law 697 = .ok (.aload_n 0, 1) := by decide +kernel
theorem dL_law_698 : decode cL_law 698 = .ok (.iload 4, 2) := by decide +kernel
theorem dL_law_700 : decode cL_law 700 = .ok (.iconst 2, 1) := by decide +kernel
theorem dL_law_701 : decode cL_law 701 = .ok (.iadd, 1) := by decide +kernel
theorem dL_law_702 : decode cL_law 702 = .ok (.iaload, 1) := by decide +kernel
theorem dL_law_703 : decode cL_law 703 = .ok (.invokevirtual 112, 3) := by decide +kernel
theorem dL_law_706 : decode cL_law 706 = .ok (.istore 6, 2) := by decide +kernel
theorem dL_law_708 : decode cL_law 708 = .ok (.aload_n 2, 1) := by decide +kernel
theorem dL_law_709 : decode cL_law 709 = .ok (.invokevirtual 84, 3) := by decide +kernel
theorem dL_law_712 : decode cL_law 712 = .ok (.iload 5, 2) := by decide +kernel
theorem dL_law_714 : decode cL_law 714 = .ok (.if_icmp .eq 5, 3) := by decide +kernel
theorem dL_law_717 : decode cL_law 717 = .ok (.iconst 0, 1) := by decide +kernel
theorem dL_law_718 : decode cL_law 718 = .ok (.ireturn, 1) := by decide +kernel
theorem dL_law_719 : decode cL_law 719 = .ok (.iload 5, 2) := by decide +kernel
theorem dL_law_721 : decode cL_law 721 = .ok (.ifCond .ne 15, 3) := by decide +kernel
theorem dL_law_724 : decode cL_law 724 = .ok (.aload_n 3, 1) := by decide +kernel
theorem dL_law_725 : decode cL_law 725 = .ok (.iconst 0, 1) := by decide +kernel
theorem dL_law_726 : decode cL_law 726 = .ok (.laload, 1) := by decide +kernel
theorem dL_law_727 : decode cL_law 727 = .ok (.iload 6, 2) := by decide +kernel
theorem dL_law_729 : decode cL_law 729 = .ok (.i2l, 1) := by decide +kernel
theorem dL_law_730 : decode cL_law 730 = .ok (.lcmp, 1) := by decide +kernel
theorem dL_law_731 : decode cL_law 731 = .ok (.ifCond .eq 5, 3) := by decide +kernel
theorem dL_law_734 : decode cL_law 734 = .ok (.iconst 0, 1) := by decide +kernel
theorem dL_law_735 : decode cL_law 735 = .ok (.ireturn, 1) := by decide +kernel
theorem dL_law_736 : decode cL_law 736 = .ok (.goto 691, 3) := by decide +kernel
theorem dL_law_739 : decode cL_law 739 = .ok (.aload_n 1, 1) := by decide +kernel
theorem dL_law_740 : decode cL_law 740 = .ok (.aload_n 0, 1) := by decide +kernel
theorem dL_law_741 : decode cL_law 741 = .ok (.iload 4, 2) := by decide +kernel
theorem dL_law_743 : decode cL_law 743 = .ok (.iconst 1, 1) := by decide +kernel
theorem dL_law_744 : decode cL_law 744 = .ok (.iadd, 1) := by decide +kernel
theorem dL_law_745 : decode cL_law 745 = .ok (.iaload, 1) := by decide +kernel
theorem dL_law_746 : decode cL_law 746 = .ok (.aload_n 0, 1) := by decide +kernel
theorem dL_law_747 : decode cL_law 747 = .ok (.iload 4, 2) := by decide +kernel
theorem dL_law_749 : decode cL_law 749 = .ok (.iconst 2, 1) := by decide +kernel
theorem dL_law_750 : decode cL_law 750 = .ok (.iadd, 1) := by decide +kernel
theorem dL_law_751 : decode cL_law 751 = .ok (.iaload, 1) := by decide +kernel
theorem dL_law_752 : decode cL_law 752 = .ok (.aload_n 3, 1) := by decide +kernel
theorem dL_law_753 : decode cL_law 753 = .ok (.invokestatic 113, 3) := by decide +kernel
theorem dL_law_756 : decode cL_law 756 = .ok (.istore 5, 2) := by decide +kernel
theorem dL_law_758 : decode cL_law 758 = .ok (.aload_n 2, 1) := by decide +kernel
theorem dL_law_759 : decode cL_law 759 = .ok (.aload_n 0, 1) := by decide +kernel
theorem dL_law_760 : decode cL_law 760 = .ok (.iload 4, 2) := by decide +kernel
theorem dL_law_762 : decode cL_law 762 = .ok (.iconst 1, 1) := by decide +kernel
theorem dL_law_763 : decode cL_law 763 = .ok (.iadd, 1) := by decide +kernel
theorem dL_law_764 : decode cL_law 764 = .ok (.iaload, 1) := by decide +kernel
theorem dL_law_765 : decode cL_law 765 = .ok (.aload_n 0, 1) := by decide +kernel
theorem dL_law_766 : decode cL_law 766 = .ok (.iload 4, 2) := by decide +kernel
theorem dL_law_768 : decode cL_law 768 = .ok (.iconst 2, 1) := by decide +kernel
theorem dL_law_769 : decode cL_law 769 = .ok (.iadd, 1) := by decide +kernel
theorem dL_law_770 : decode cL_law 770 = .ok (.iaload, 1) := by decide +kernel
theorem dL_law_771 : decode cL_law 771 = .ok (.invokevirtual 115, 3) := by decide +kernel
theorem dL_law_774 : decode cL_law 774 = .ok (.istore 6, 2) := by decide +kernel
theorem dL_law_776 : decode cL_law 776 = .ok (.aload_n 2, 1) := by decide +kernel
theorem dL_law_777 : decode cL_law 777 = .ok (.invokevirtual 84, 3) := by decide +kernel
theorem dL_law_780 : decode cL_law 780 = .ok (.iload 5, 2) := by decide +kernel
theorem dL_law_782 : decode cL_law 782 = .ok (.if_icmp .eq 5, 3) := by decide +kernel
theorem dL_law_785 : decode cL_law 785 = .ok (.iconst 0, 1) := by decide +kernel
theorem dL_law_786 : decode cL_law 786 = .ok (.ireturn, 1) := by decide +kernel
theorem dL_law_787 : decode cL_law 787 = .ok (.iload 5, 2) := by decide +kernel
theorem dL_law_789 : decode cL_law 789 = .ok (.ifCond .ne 15, 3) := by decide +kernel
theorem dL_law_792 : decode cL_law 792 = .ok (.aload_n 3, 1) := by decide +kernel
theorem dL_law_793 : decode cL_law 793 = .ok (.iconst 0, 1) := by decide +kernel
theorem dL_law_794 : decode cL_law 794 = .ok (.laload, 1) := by decide +kernel
theorem dL_law_795 : decode cL_law 795 = .ok (.iload 6, 2) := by decide +kernel
theorem dL_law_797 : decode cL_law 797 = .ok (.i2l, 1) := by decide +kernel
theorem dL_law_798 : decode cL_law 798 = .ok (.lcmp, 1) := by decide +kernel
theorem dL_law_799 : decode cL_law 799 = .ok (.ifCond .eq 5, 3) := by decide +kernel
theorem dL_law_802 : decode cL_law 802 = .ok (.iconst 0, 1) := by decide +kernel
theorem dL_law_803 : decode cL_law 803 = .ok (.ireturn, 1) := by decide +kernel
theorem dL_law_804 : decode cL_law 804 = .ok (.goto 623, 3) := by decide +kernel
theorem dL_law_807 : decode cL_law 807 = .ok (.aload_n 1, 1) := by decide +kernel
theorem dL_law_808 : decode cL_law 808 = .ok (.aload_n 0, 1) := by decide +kernel
theorem dL_law_809 : decode cL_law 809 = .ok (.iload 4, 2) := by decide +kernel
theorem dL_law_811 : decode cL_law 811 = .ok (.iconst 1, 1) := by decide +kernel
theorem dL_law_812 : decode cL_law 812 = .ok (.iadd, 1) := by decide +kernel
theorem dL_law_813 : decode cL_law 813 = .ok (.iaload, 1) := by decide +kernel
theorem dL_law_814 : decode cL_law 814 = .ok (.aload_n 0, 1) := by decide +kernel
theorem dL_law_815 : decode cL_law 815 = .ok (.iload 4, 2) := by decide +kernel
theorem dL_law_817 : decode cL_law 817 = .ok (.iconst 2, 1) := by decide +kernel
theorem dL_law_818 : decode cL_law 818 = .ok (.iadd, 1) := by decide +kernel
theorem dL_law_819 : decode cL_law 819 = .ok (.iaload, 1) := by decide +kernel
theorem dL_law_820 : decode cL_law 820 = .ok (.aload_n 3, 1) := by decide +kernel
theorem dL_law_821 : decode cL_law 821 = .ok (.invokestatic 116, 3) := by decide +kernel
theorem dL_law_824 : decode cL_law 824 = .ok (.istore 5, 2) := by decide +kernel
theorem dL_law_826 : decode cL_law 826 = .ok (.aload_n 2, 1) := by decide +kernel
theorem dL_law_827 : decode cL_law 827 = .ok (.aload_n 0, 1) := by decide +kernel
theorem dL_law_828 : decode cL_law 828 = .ok (.iload 4, 2) := by decide +kernel
theorem dL_law_830 : decode cL_law 830 = .ok (.iconst 1, 1) := by decide +kernel
theorem dL_law_831 : decode cL_law 831 = .ok (.iadd, 1) := by decide +kernel
theorem dL_law_832 : decode cL_law 832 = .ok (.iaload, 1) := by decide +kernel
theorem dL_law_833 : decode cL_law 833 = .ok (.aload_n 0, 1) := by decide +kernel
theorem dL_law_834 : decode cL_law 834 = .ok (.iload 4, 2) := by decide +kernel
theorem dL_law_836 : decode cL_law 836 = .ok (.iconst 2, 1) := by decide +kernel
theorem dL_law_837 : decode cL_law 837 = .ok (.iadd, 1) := by decide +kernel
theorem dL_law_838 : decode cL_law 838 = .ok (.iaload, 1) := by decide +kernel
theorem dL_law_839 : decode cL_law 839 = .ok (.invokevirtual 118, 3) := by decide +kernel
theorem dL_law_842 : decode cL_law 842 = .ok (.istore 6, 2) := by decide +kernel
theorem dL_law_844 : decode cL_law 844 = .ok (.aload_n 2, 1) := by decide +kernel
theorem dL_law_845 : decode cL_law 845 = .ok (.invokevirtual 84, 3) := by decide +kernel
theorem dL_law_848 : decode cL_law 848 = .ok (.iload 5, 2) := by decide +kernel
theorem dL_law_850 : decode cL_law 850 = .ok (.if_icmp .eq 5, 3) := by decide +kernel
theorem dL_law_853 : decode cL_law 853 = .ok (.iconst 0, 1) := by decide +kernel
theorem dL_law_854 : decode cL_law 854 = .ok (.ireturn, 1) := by decide +kernel
theorem dL_law_855 : decode cL_law 855 = .ok (.iload 5, 2) := by decide +kernel
theorem dL_law_857 : decode cL_law 857 = .ok (.ifCond .ne 15, 3) := by decide +kernel
theorem dL_law_860 : decode cL_law 860 = .ok (.aload_n 3, 1) := by decide +kernel
theorem dL_law_861 : decode cL_law 861 = .ok (.iconst 0, 1) := by decide +kernel
theorem dL_law_862 : decode cL_law 862 = .ok (.laload, 1) := by decide +kernel
theorem dL_law_863 : decode cL_law 863 = .ok (.iload 6, 2) := by decide +kernel
theorem dL_law_865 : decode cL_law 865 = .ok (.i2l, 1) := by decide +kernel
theorem dL_law_866 : decode cL_law 866 = .ok (.lcmp, 1) := by decide +kernel
theorem dL_law_867 : decode cL_law 867 = .ok (.ifCond .eq 5, 3) := by decide +kernel
theorem dL_law_870 : decode cL_law 870 = .ok (.iconst 0, 1) := by decide +kernel
theorem dL_law_871 : decode cL_law 871 = .ok (.ireturn, 1) := by decide +kernel
theorem dL_law_872 : decode cL_law 872 = .ok (.goto 555, 3) := by decide +kernel
theorem dL_law_875 : decode cL_law 875 = .ok (.aload_n 1, 1) := by decide +kernel
theorem dL_law_876 : decode cL_law 876 = .ok (.aload_n 0, 1) := by decide +kernel
theorem dL_law_877 : decode cL_law 877 = .ok (.iload 4, 2) := by decide +kernel
theorem dL_law_879 : decode cL_law 879 = .ok (.iconst 1, 1) := by decide +kernel
theorem dL_law_880 : decode cL_law 880 = .ok (.iadd, 1) := by decide +kernel
theorem dL_law_881 : decode cL_law 881 = .ok (.iaload, 1) := by decide +kernel
theorem dL_law_882 : decode cL_law 882 = .ok (.aload_n 0, 1) := by decide +kernel
theorem dL_law_883 : decode cL_law 883 = .ok (.iload 4, 2) := by decide +kernel
theorem dL_law_885 : decode cL_law 885 = .ok (.iconst 2, 1) := by decide +kernel
theorem dL_law_886 : decode cL_law 886 = .ok (.iadd, 1) := by decide +kernel
theorem dL_law_887 : decode cL_law 887 = .ok (.iaload, 1) := by decide +kernel
theorem dL_law_888 : decode cL_law 888 = .ok (.aload_n 3, 1) := by decide +kernel
theorem dL_law_889 : decode cL_law 889 = .ok (.invokestatic 119, 3) := by decide +kernel
theorem dL_law_892 : decode cL_law 892 = .ok (.istore 5, 2) := by decide +kernel
theorem dL_law_894 : decode cL_law 894 = .ok (.aload_n 2, 1) := by decide +kernel
theorem dL_law_895 : decode cL_law 895 = .ok (.aload_n 0, 1) := by decide +kernel
theorem dL_law_896 : decode cL_law 896 = .ok (.iload 4, 2) := by decide +kernel
theorem dL_law_898 : decode cL_law 898 = .ok (.iconst 1, 1) := by decide +kernel
theorem dL_law_899 : decode cL_law 899 = .ok (.iadd, 1) := by decide +kernel
theorem dL_law_900 : decode cL_law 900 = .ok (.iaload, 1) := by decide +kernel
theorem dL_law_901 : decode cL_law 901 = .ok (.aload_n 0, 1) := by decide +kernel
theorem dL_law_902 : decode cL_law 902 = .ok (.iload 4, 2) := by decide +kernel
theorem dL_law_904 : decode cL_law 904 = .ok (.iconst 2, 1) := by decide +kernel
theorem dL_law_905 : decode cL_law 905 = .ok (.iadd, 1) := by decide +kernel
theorem dL_law_906 : decode cL_law 906 = .ok (.iaload, 1) := by decide +kernel
theorem dL_law_907 : decode cL_law 907 = .ok (.invokevirtual 121, 3) := by decide +kernel
theorem dL_law_910 : decode cL_law 910 = .ok (.istore 6, 2) := by decide +kernel
theorem dL_law_912 : decode cL_law 912 = .ok (.aload_n 2, 1) := by decide +kernel
theorem dL_law_913 : decode cL_law 913 = .ok (.invokevirtual 84, 3) := by decide +kernel
theorem dL_law_916 : decode cL_law 916 = .ok (.iload 5, 2) := by decide +kernel
theorem dL_law_918 : decode cL_law 918 = .ok (.if_icmp .eq 5, 3) := by decide +kernel
theorem dL_law_921 : decode cL_law 921 = .ok (.iconst 0, 1) := by decide +kernel
theorem dL_law_922 : decode cL_law 922 = .ok (.ireturn, 1) := by decide +kernel
theorem dL_law_923 : decode cL_law 923 = .ok (.iload 5, 2) := by decide +kernel
theorem dL_law_925 : decode cL_law 925 = .ok (.ifCond .ne 15, 3) := by decide +kernel
theorem dL_law_928 : decode cL_law 928 = .ok (.aload_n 3, 1) := by decide +kernel
theorem dL_law_929 : decode cL_law 929 = .ok (.iconst 0, 1) := by decide +kernel
theorem dL_law_930 : decode cL_law 930 = .ok (.laload, 1) := by decide +kernel
theorem dL_law_931 : decode cL_law 931 = .ok (.iload 6, 2) := by decide +kernel
theorem dL_law_933 : decode cL_law 933 = .ok (.i2l, 1) := by decide +kernel
theorem dL_law_934 : decode cL_law 934 = .ok (.lcmp, 1) := by decide +kernel
theorem dL_law_935 : decode cL_law 935 = .ok (.ifCond .eq 5, 3) := by decide +kernel
theorem dL_law_938 : decode cL_law 938 = .ok (.iconst 0, 1) := by decide +kernel
theorem dL_law_939 : decode cL_law 939 = .ok (.ireturn, 1) := by decide +kernel
theorem dL_law_940 : decode cL_law 940 = .ok (.goto 487, 3) := by decide +kernel
theorem dL_law_943 : decode cL_law 943 = .ok (.aload_n 1, 1) := by decide +kernel
theorem dL_law_944 : decode cL_law 944 = .ok (.aload_n 0, 1) := by decide +kernel
theorem dL_law_945 : decode cL_law 945 = .ok (.iload 4, 2) := by decide +kernel
theorem dL_law_947 : decode cL_law 947 = .ok (.iconst 1, 1) := by decide +kernel
theorem dL_law_948 : decode cL_law 948 = .ok (.iadd, 1) := by decide +kernel
theorem dL_law_949 : decode cL_law 949 = .ok (.iaload, 1) := by decide +kernel
theorem dL_law_950 : decode cL_law 950 = .ok (.aload_n 3, 1) := by decide +kernel
theorem dL_law_951 : decode cL_law 951 = .ok (.invokestatic 122, 3) := by decide +kernel
theorem dL_law_954 : decode cL_law 954 = .ok (.istore 5, 2) := by decide +kernel
theorem dL_law_956 : decode cL_law 956 = .ok (.aload_n 2, 1) := by decide +kernel
theorem dL_law_957 : decode cL_law 957 = .ok (.aload_n 0, 1) := by decide +kernel
theorem dL_law_958 : decode cL_law 958 = .ok (.iload 4, 2) := by decide +kernel
theorem dL_law_960 : decode cL_law 960 = .ok (.iconst 1, 1) := by decide +kernel
theorem dL_law_961 : decode cL_law 961 = .ok (.iadd, 1) := by decide +kernel
theorem dL_law_962 : decode cL_law 962 = .ok (.iaload, 1) := by decide +kernel
theorem dL_law_963 : decode cL_law 963 = .ok (.invokevirtual 124, 3) := by decide +kernel
theorem dL_law_966 : decode cL_law 966 = .ok (.istore 6, 2) := by decide +kernel
theorem dL_law_968 : decode cL_law 968 = .ok (.aload_n 2, 1) := by decide +kernel
theorem dL_law_969 : decode cL_law 969 = .ok (.invokevirtual 84, 3) := by decide +kernel
theorem dL_law_972 : decode cL_law 972 = .ok (.iload 5, 2) := by decide +kernel
theorem dL_law_974 : decode cL_law 974 = .ok (.if_icmp .eq 5, 3) := by decide +kernel
theorem dL_law_977 : decode cL_law 977 = .ok (.iconst 0, 1) := by decide +kernel
theorem dL_law_978 : decode cL_law 978 = .ok (.ireturn, 1) := by decide +kernel
theorem dL_law_979 : decode cL_law 979 = .ok (.iload 5, 2) := by decide +kernel
theorem dL_law_981 : decode cL_law 981 = .ok (.ifCond .ne 15, 3) := by decide +kernel
theorem dL_law_984 : decode cL_law 984 = .ok (.aload_n 3, 1) := by decide +kernel
theorem dL_law_985 : decode cL_law 985 = .ok (.iconst 0, 1) := by decide +kernel
theorem dL_law_986 : decode cL_law 986 = .ok (.laload, 1) := by decide +kernel
theorem dL_law_987 : decode cL_law 987 = .ok (.iload 6, 2) := by decide +kernel
theorem dL_law_989 : decode cL_law 989 = .ok (.i2l, 1) := by decide +kernel
theorem dL_law_990 : decode cL_law 990 = .ok (.lcmp, 1) := by decide +kernel
theorem dL_law_991 : decode cL_law 991 = .ok (.ifCond .eq 5, 3) := by decide +kernel
theorem dL_law_994 : decode cL_law 994 = .ok (.iconst 0, 1) := by decide +kernel
theorem dL_law_995 : decode cL_law 995 = .ok (.ireturn, 1) := by decide +kernel
theorem dL_law_996 : decode cL_law 996 = .ok (.goto 431, 3) := by decide +kernel
theorem dL_law_999 : decode cL_law 999 = .ok (.aload_n 1, 1) := by decide +kernel
theorem dL_law_1000 : decode cL_law 1000 = .ok (.aload_n 0, 1) := by decide +kernel
theorem dL_law_1001 : decode cL_law 1001 = .ok (.iload 4, 2) := by decide +kernel
theorem dL_law_1003 : decode cL_law 1003 = .ok (.iconst 1, 1) := by decide +kernel
theorem dL_law_1004 : decode cL_law 1004 = .ok (.iadd, 1) := by decide +kernel
theorem dL_law_1005 : decode cL_law 1005 = .ok (.iaload, 1) := by decide +kernel
theorem dL_law_1006 : decode cL_law 1006 = .ok (.aload_n 3, 1) := by decide +kernel
theorem dL_law_1007 : decode cL_law 1007 = .ok (.invokestatic 125, 3) := by decide +kernel
theorem dL_law_1010 : decode cL_law 1010 = .ok (.istore 5, 2) := by decide +kernel
theorem dL_law_1012 : decode cL_law 1012 = .ok (.aload_n 2, 1) := by decide +kernel
theorem dL_law_1013 : decode cL_law 1013 = .ok (.aload_n 0, 1) := by decide +kernel
theorem dL_law_1014 : decode cL_law 1014 = .ok (.iload 4, 2) := by decide +kernel
theorem dL_law_1016 : decode cL_law 1016 = .ok (.iconst 1, 1) := by decide +kernel
theorem dL_law_1017 : decode cL_law 1017 = .ok (.iadd, 1) := by decide +kernel
theorem dL_law_1018 : decode cL_law 1018 = .ok (.iaload, 1) := by decide +kernel
theorem dL_law_1019 : decode cL_law 1019 = .ok (.invokevirtual 127, 3) := by decide +kernel
theorem dL_law_1022 : decode cL_law 1022 = .ok (.istore 6, 2) := by decide +kernel
theorem dL_law_1024 : decode cL_law 1024 = .ok (.aload_n 2, 1) := by decide +kernel
theorem dL_law_1025 : decode cL_law 1025 = .ok (.invokevirtual 84, 3) := by decide +kernel
theorem dL_law_1028 : decode cL_law 1028 = .ok (.iload 5, 2) := by decide +kernel
theorem dL_law_1030 : decode cL_law 1030 = .ok (.if_icmp .eq 5, 3) := by decide +kernel
theorem dL_law_1033 : decode cL_law 1033 = .ok (.iconst 0, 1) := by decide +kernel
theorem dL_law_1034 : decode cL_law 1034 = .ok (.ireturn, 1) := by decide +kernel
theorem dL_law_1035 : decode cL_law 1035 = .ok (.iload 5, 2) := by decide +kernel
theorem dL_law_1037 : decode cL_law 1037 = .ok (.ifCond .ne 15, 3) := by decide +kernel
theorem dL_law_1040 : decode cL_law 1040 = .ok (.aload_n 3, 1) := by decide +kernel
theorem dL_law_1041 : decode cL_law 1041 = .ok (.iconst 0, 1) := by decide +kernel
theorem dL_law_1042 : decode cL_law 1042 = .ok (.laload, 1) := by decide +kernel
theorem dL_law_1043 : decode cL_law 1043 = .ok (.iload 6, 2) := by decide +kernel
theorem dL_law_1045 : decode cL_law 1045 = .ok (.i2l, 1) := by decide +kernel
theorem dL_law_1046 : decode cL_law 1046 = .ok (.lcmp, 1) := by decide +kernel
theorem dL_law_1047 : decode cL_law 1047 = .ok (.ifCond .eq 5, 3) := by decide +kernel
theorem dL_law_1050 : decode cL_law 1050 = .ok (.iconst 0, 1) := by decide +kernel
theorem dL_law_1051 : decode cL_law 1051 = .ok (.ireturn, 1) := by decide +kernel
theorem dL_law_1052 : decode cL_law 1052 = .ok (.goto 375, 3) := by decide +kernel
theorem dL_law_1055 : decode cL_law 1055 = .ok (.aload_n 1, 1) := by decide +kernel
theorem dL_law_1056 : decode cL_law 1056 = .ok (.aload_n 0, 1) := by decide +kernel
theorem dL_law_1057 : decode cL_law 1057 = .ok (.iload 4, 2) := by decide +kernel
theorem dL_law_1059 : decode cL_law 1059 = .ok (.iconst 1, 1) := by decide +kernel
theorem dL_law_1060 : decode cL_law 1060 = .ok (.iadd, 1) := by decide +kernel
theorem dL_law_1061 : decode cL_law 1061 = .ok (.iaload, 1) := by decide +kernel
theorem dL_law_1062 : decode cL_law 1062 = .ok (.aload_n 0, 1) := by decide +kernel
theorem dL_law_1063 : decode cL_law 1063 = .ok (.iload 4, 2) := by decide +kernel
theorem dL_law_1065 : decode cL_law 1065 = .ok (.iconst 2, 1) := by decide +kernel
theorem dL_law_1066 : decode cL_law 1066 = .ok (.iadd, 1) := by decide +kernel
theorem dL_law_1067 : decode cL_law 1067 = .ok (.iaload, 1) := by decide +kernel
theorem dL_law_1068 : decode cL_law 1068 = .ok (.aload_n 3, 1) := by decide +kernel
theorem dL_law_1069 : decode cL_law 1069 = .ok (.invokestatic 128, 3) := by decide +kernel
theorem dL_law_1072 : decode cL_law 1072 = .ok (.istore 5, 2) := by decide +kernel
theorem dL_law_1074 : decode cL_law 1074 = .ok (.aload_n 2, 1) := by decide +kernel
theorem dL_law_1075 : decode cL_law 1075 = .ok (.aload_n 0, 1) := by decide +kernel
theorem dL_law_1076 : decode cL_law 1076 = .ok (.iload 4, 2) := by decide +kernel
theorem dL_law_1078 : decode cL_law 1078 = .ok (.iconst 1, 1) := by decide +kernel
theorem dL_law_1079 : decode cL_law 1079 = .ok (.iadd, 1) := by decide +kernel
theorem dL_law_1080 : decode cL_law 1080 = .ok (.iaload, 1) := by decide +kernel
theorem dL_law_1081 : decode cL_law 1081 = .ok (.aload_n 0, 1) := by decide +kernel
theorem dL_law_1082 : decode cL_law 1082 = .ok (.iload 4, 2) := by decide +kernel
theorem dL_law_1084 : decode cL_law 1084 = .ok (.iconst 2, 1) := by decide +kernel
theorem dL_law_1085 : decode cL_law 1085 = .ok (.iadd, 1) := by decide +kernel
theorem dL_law_1086 : decode cL_law 1086 = .ok (.iaload, 1) := by decide +kernel
theorem dL_law_1087 : decode cL_law 1087 = .ok (.invokevirtual 130, 3) := by decide +kernel
theorem dL_law_1090 : decode cL_law 1090 = .ok (.istore 6, 2) := by decide +kernel
theorem dL_law_1092 : decode cL_law 1092 = .ok (.aload_n 2, 1) := by decide +kernel
theorem dL_law_1093 : decode cL_law 1093 = .ok (.invokevirtual 84, 3) := by decide +kernel
theorem dL_law_1096 : decode cL_law 1096 = .ok (.iload 5, 2) := by decide +kernel
theorem dL_law_1098 : decode cL_law 1098 = .ok (.if_icmp .eq 5, 3) := by decide +kernel
theorem dL_law_1101 : decode cL_law 1101 = .ok (.iconst 0, 1) := by decide +kernel
theorem dL_law_1102 : decode cL_law 1102 = .ok (.ireturn, 1) := by decide +kernel
theorem dL_law_1103 : decode cL_law 1103 = .ok (.iload 5, 2) := by decide +kernel
theorem dL_law_1105 : decode cL_law 1105 = .ok (.ifCond .ne 15, 3) := by decide +kernel
theorem dL_law_1108 : decode cL_law 1108 = .ok (.aload_n 3, 1) := by decide +kernel
theorem dL_law_1109 : decode cL_law 1109 = .ok (.iconst 0, 1) := by decide +kernel
theorem dL_law_1110 : decode cL_law 1110 = .ok (.laload, 1) := by decide +kernel
theorem dL_law_1111 : decode cL_law 1111 = .ok (.iload 6, 2) := by decide +kernel
theorem dL_law_1113 : decode cL_law 1113 = .ok (.i2l, 1) := by decide +kernel
theorem dL_law_1114 : decode cL_law 1114 = .ok (.lcmp, 1) := by decide +kernel
theorem dL_law_1115 : decode cL_law 1115 = .ok (.ifCond .eq 5, 3) := by decide +kernel
theorem dL_law_1118 : decode cL_law 1118 = .ok (.iconst 0, 1) := by decide +kernel
theorem dL_law_1119 : decode cL_law 1119 = .ok (.ireturn, 1) := by decide +kernel
theorem dL_law_1120 : decode cL_law 1120 = .ok (.goto 307, 3) := by decide +kernel
theorem dL_law_1123 : decode cL_law 1123 = .ok (.aload_n 1, 1) := by decide +kernel
theorem dL_law_1124 : decode cL_law 1124 = .ok (.aload_n 0, 1) := by decide +kernel
theorem dL_law_1125 : decode cL_law 1125 = .ok (.iload 4, 2) := by decide +kernel
theorem dL_law_1127 : decode cL_law 1127 = .ok (.iconst 1, 1) := by decide +kernel
theorem dL_law_1128 : decode cL_law 1128 = .ok (.iadd, 1) := by decide +kernel
theorem dL_law_1129 : decode cL_law 1129 = .ok (.iaload, 1) := by decide +kernel
theorem dL_law_1130 : decode cL_law 1130 = .ok (.aload_n 3, 1) := by decide +kernel
theorem dL_law_1131 : decode cL_law 1131 = .ok (.invokestatic 131, 3) := by decide +kernel
theorem dL_law_1134 : decode cL_law 1134 = .ok (.istore 5, 2) := by decide +kernel
theorem dL_law_1136 : decode cL_law 1136 = .ok (.aload_n 2, 1) := by decide +kernel
theorem dL_law_1137 : decode cL_law 1137 = .ok (.aload_n 0, 1) := by decide +kernel
theorem dL_law_1138 : decode cL_law 1138 = .ok (.iload 4, 2) := by decide +kernel
theorem dL_law_1140 : decode cL_law 1140 = .ok (.iconst 1, 1) := by decide +kernel
theorem dL_law_1141 : decode cL_law 1141 = .ok (.iadd, 1) := by decide +kernel
theorem dL_law_1142 : decode cL_law 1142 = .ok (.iaload, 1) := by decide +kernel
theorem dL_law_1143 : decode cL_law 1143 = .ok (.invokevirtual 133, 3) := by decide +kernel
theorem dL_law_1146 : decode cL_law 1146 = .ok (.istore 6, 2) := by decide +kernel
theorem dL_law_1148 : decode cL_law 1148 = .ok (.aload_n 2, 1) := by decide +kernel
theorem dL_law_1149 : decode cL_law 1149 = .ok (.invokevirtual 84, 3) := by decide +kernel
theorem dL_law_1152 : decode cL_law 1152 = .ok (.iload 5, 2) := by decide +kernel
theorem dL_law_1154 : decode cL_law 1154 = .ok (.if_icmp .eq 5, 3) := by decide +kernel
theorem dL_law_1157 : decode cL_law 1157 = .ok (.iconst 0, 1) := by decide +kernel
theorem dL_law_1158 : decode cL_law 1158 = .ok (.ireturn, 1) := by decide +kernel
theorem dL_law_1159 : decode cL_law 1159 = .ok (.iload 5, 2) := by decide +kernel
theorem dL_law_1161 : decode cL_law 1161 = .ok (.ifCond .ne 15, 3) := by decide +kernel
theorem dL_law_1164 : decode cL_law 1164 = .ok (.aload_n 3, 1) := by decide +kernel
theorem dL_law_1165 : decode cL_law 1165 = .ok (.iconst 0, 1) := by decide +kernel
theorem dL_law_1166 : decode cL_law 1166 = .ok (.laload, 1) := by decide +kernel
theorem dL_law_1167 : decode cL_law 1167 = .ok (.iload 6, 2) := by decide +kernel
theorem dL_law_1169 : decode cL_law 1169 = .ok (.i2l, 1) := by decide +kernel
theorem dL_law_1170 : decode cL_law 1170 = .ok (.lcmp, 1) := by decide +kernel
theorem dL_law_1171 : decode cL_law 1171 = .ok (.ifCond .eq 5, 3) := by decide +kernel
theorem dL_law_1174 : decode cL_law 1174 = .ok (.iconst 0, 1) := by decide +kernel
theorem dL_law_1175 : decode cL_law 1175 = .ok (.ireturn, 1) := by decide +kernel
theorem dL_law_1176 : decode cL_law 1176 = .ok (.goto 251, 3) := by decide +kernel
theorem dL_law_1179 : decode cL_law 1179 = .ok (.aload_n 1, 1) := by decide +kernel
theorem dL_law_1180 : decode cL_law 1180 = .ok (.aload_n 0, 1) := by decide +kernel
theorem dL_law_1181 : decode cL_law 1181 = .ok (.iload 4, 2) := by decide +kernel
theorem dL_law_1183 : decode cL_law 1183 = .ok (.iconst 1, 1) := by decide +kernel
theorem dL_law_1184 : decode cL_law 1184 = .ok (.iadd, 1) := by decide +kernel
theorem dL_law_1185 : decode cL_law 1185 = .ok (.iaload, 1) := by decide +kernel
theorem dL_law_1186 : decode cL_law 1186 = .ok (.aload_n 0, 1) := by decide +kernel
theorem dL_law_1187 : decode cL_law 1187 = .ok (.iload 4, 2) := by decide +kernel
theorem dL_law_1189 : decode cL_law 1189 = .ok (.iconst 2, 1) := by decide +kernel
theorem dL_law_1190 : decode cL_law 1190 = .ok (.iadd, 1) := by decide +kernel
theorem dL_law_1191 : decode cL_law 1191 = .ok (.iaload, 1) := by decide +kernel
theorem dL_law_1192 : decode cL_law 1192 = .ok (.aload_n 3, 1) := by decide +kernel
theorem dL_law_1193 : decode cL_law 1193 = .ok (.invokestatic 134, 3) := by decide +kernel
theorem dL_law_1196 : decode cL_law 1196 = .ok (.istore 5, 2) := by decide +kernel
theorem dL_law_1198 : decode cL_law 1198 = .ok (.aload_n 2, 1) := by decide +kernel
theorem dL_law_1199 : decode cL_law 1199 = .ok (.aload_n 0, 1) := by decide +kernel
theorem dL_law_1200 : decode cL_law 1200 = .ok (.iload 4, 2) := by decide +kernel
theorem dL_law_1202 : decode cL_law 1202 = .ok (.iconst 1, 1) := by decide +kernel
theorem dL_law_1203 : decode cL_law 1203 = .ok (.iadd, 1) := by decide +kernel
theorem dL_law_1204 : decode cL_law 1204 = .ok (.iaload, 1) := by decide +kernel
theorem dL_law_1205 : decode cL_law 1205 = .ok (.aload_n 0, 1) := by decide +kernel
theorem dL_law_1206 : decode cL_law 1206 = .ok (.iload 4, 2) := by decide +kernel
theorem dL_law_1208 : decode cL_law 1208 = .ok (.iconst 2, 1) := by decide +kernel
theorem dL_law_1209 : decode cL_law 1209 = .ok (.iadd, 1) := by decide +kernel
theorem dL_law_1210 : decode cL_law 1210 = .ok (.iaload, 1) := by decide +kernel
theorem dL_law_1211 : decode cL_law 1211 = .ok (.invokevirtual 136, 3) := by decide +kernel
theorem dL_law_1214 : decode cL_law 1214 = .ok (.istore 6, 2) := by decide +kernel
theorem dL_law_1216 : decode cL_law 1216 = .ok (.aload_n 2, 1) := by decide +kernel
theorem dL_law_1217 : decode cL_law 1217 = .ok (.invokevirtual 84, 3) := by decide +kernel
theorem dL_law_1220 : decode cL_law 1220 = .ok (.iload 5, 2) := by decide +kernel
theorem dL_law_1222 : decode cL_law 1222 = .ok (.if_icmp .eq 5, 3) := by decide +kernel
theorem dL_law_1225 : decode cL_law 1225 = .ok (.iconst 0, 1) := by decide +kernel
theorem dL_law_1226 : decode cL_law 1226 = .ok (.ireturn, 1) := by decide +kernel
theorem dL_law_1227 : decode cL_law 1227 = .ok (.iload 5, 2) := by decide +kernel
theorem dL_law_1229 : decode cL_law 1229 = .ok (.ifCond .ne 15, 3) := by decide +kernel
theorem dL_law_1232 : decode cL_law 1232 = .ok (.aload_n 3, 1) := by decide +kernel
theorem dL_law_1233 : decode cL_law 1233 = .ok (.iconst 0, 1) := by decide +kernel
theorem dL_law_1234 : decode cL_law 1234 = .ok (.laload, 1) := by decide +kernel
theorem dL_law_1235 : decode cL_law 1235 = .ok (.iload 6, 2) := by decide +kernel
theorem dL_law_1237 : decode cL_law 1237 = .ok (.i2l, 1) := by decide +kernel
theorem dL_law_1238 : decode cL_law 1238 = .ok (.lcmp, 1) := by decide +kernel
theorem dL_law_1239 : decode cL_law 1239 = .ok (.ifCond .eq 5, 3) := by decide +kernel
theorem dL_law_1242 : decode cL_law 1242 = .ok (.iconst 0, 1) := by decide +kernel
theorem dL_law_1243 : decode cL_law 1243 = .ok (.ireturn, 1) := by decide +kernel
theorem dL_law_1244 : decode cL_law 1244 = .ok (.goto 183, 3) := by decide +kernel
theorem dL_law_1247 : decode cL_law 1247 = .ok (.aload_n 1, 1) := by decide +kernel
theorem dL_law_1248 : decode cL_law 1248 = .ok (.aload_n 0, 1) := by decide +kernel
theorem dL_law_1249 : decode cL_law 1249 = .ok (.iload 4, 2) := by decide +kernel
theorem dL_law_1251 : decode cL_law 1251 = .ok (.iconst 1, 1) := by decide +kernel
theorem dL_law_1252 : decode cL_law 1252 = .ok (.iadd, 1) := by decide +kernel
theorem dL_law_1253 : decode cL_law 1253 = .ok (.iaload, 1) := by decide +kernel
theorem dL_law_1254 : decode cL_law 1254 = .ok (.aload_n 3, 1) := by decide +kernel
theorem dL_law_1255 : decode cL_law 1255 = .ok (.invokestatic 137, 3) := by decide +kernel
theorem dL_law_1258 : decode cL_law 1258 = .ok (.istore 5, 2) := by decide +kernel
theorem dL_law_1260 : decode cL_law 1260 = .ok (.aload_n 2, 1) := by decide +kernel
theorem dL_law_1261 : decode cL_law 1261 = .ok (.aload_n 0, 1) := by decide +kernel
theorem dL_law_1262 : decode cL_law 1262 = .ok (.iload 4, 2) := by decide +kernel
theorem dL_law_1264 : decode cL_law 1264 = .ok (.iconst 1, 1) := by decide +kernel
theorem dL_law_1265 : decode cL_law 1265 = .ok (.iadd, 1) := by decide +kernel
theorem dL_law_1266 : decode cL_law 1266 = .ok (.iaload, 1) := by decide +kernel
theorem dL_law_1267 : decode cL_law 1267 = .ok (.invokevirtual 139, 3) := by decide +kernel
theorem dL_law_1270 : decode cL_law 1270 = .ok (.istore 6, 2) := by decide +kernel
theorem dL_law_1272 : decode cL_law 1272 = .ok (.aload_n 2, 1) := by decide +kernel
theorem dL_law_1273 : decode cL_law 1273 = .ok (.invokevirtual 84, 3) := by decide +kernel
theorem dL_law_1276 : decode cL_law 1276 = .ok (.iload 5, 2) := by decide +kernel
theorem dL_law_1278 : decode cL_law 1278 = .ok (.if_icmp .eq 5, 3) := by decide +kernel
theorem dL_law_1281 : decode cL_law 1281 = .ok (.iconst 0, 1) := by decide +kernel
theorem dL_law_1282 : decode cL_law 1282 = .ok (.ireturn, 1) := by decide +kernel
theorem dL_law_1283 : decode cL_law 1283 = .ok (.iload 5, 2) := by decide +kernel
theorem dL_law_1285 : decode cL_law 1285 = .ok (.ifCond .ne 15, 3) := by decide +kernel
theorem dL_law_1288 : decode cL_law 1288 = .ok (.aload_n 3, 1) := by decide +kernel
theorem dL_law_1289 : decode cL_law 1289 = .ok (.iconst 0, 1) := by decide +kernel
theorem dL_law_1290 : decode cL_law 1290 = .ok (.laload, 1) := by decide +kernel
theorem dL_law_1291 : decode cL_law 1291 = .ok (.iload 6, 2) := by decide +kernel
theorem dL_law_1293 : decode cL_law 1293 = .ok (.i2l, 1) := by decide +kernel
theorem dL_law_1294 : decode cL_law 1294 = .ok (.lcmp, 1) := by decide +kernel
theorem dL_law_1295 : decode cL_law 1295 = .ok (.ifCond .eq 5, 3) := by decide +kernel
theorem dL_law_1298 : decode cL_law 1298 = .ok (.iconst 0, 1) := by decide +kernel
theorem dL_law_1299 : decode cL_law 1299 = .ok (.ireturn, 1) := by decide +kernel
theorem dL_law_1300 : decode cL_law 1300 = .ok (.goto 127, 3) := by decide +kernel
theorem dL_law_1303 : decode cL_law 1303 = .ok (.aload_n 1, 1) := by decide +kernel
theorem dL_law_1304 : decode cL_law 1304 = .ok (.aload_n 0, 1) := by decide +kernel
theorem dL_law_1305 : decode cL_law 1305 = .ok (.iload 4, 2) := by decide +kernel
theorem dL_law_1307 : decode cL_law 1307 = .ok (.iconst 1, 1) := by decide +kernel
theorem dL_law_1308 : decode cL_law 1308 = .ok (.iadd, 1) := by decide +kernel
theorem dL_law_1309 : decode cL_law 1309 = .ok (.iaload, 1) := by decide +kernel
theorem dL_law_1310 : decode cL_law 1310 = .ok (.aload_n 3, 1) := by decide +kernel
theorem dL_law_1311 : decode cL_law 1311 = .ok (.invokestatic 140, 3) := by decide +kernel
theorem dL_law_1314 : decode cL_law 1314 = .ok (.istore 5, 2) := by decide +kernel
theorem dL_law_1316 : decode cL_law 1316 = .ok (.aload_n 2, 1) := by decide +kernel
theorem dL_law_1317 : decode cL_law 1317 = .ok (.aload_n 0, 1) := by decide +kernel
theorem dL_law_1318 : decode cL_law 1318 = .ok (.iload 4, 2) := by decide +kernel
theorem dL_law_1320 : decode cL_law 1320 = .ok (.iconst 1, 1) := by decide +kernel
theorem dL_law_1321 : decode cL_law 1321 = .ok (.iadd, 1) := by decide +kernel
theorem dL_law_1322 : decode cL_law 1322 = .ok (.iaload, 1) := by decide +kernel
theorem dL_law_1323 : decode cL_law 1323 = .ok (.invokevirtual 142, 3) := by decide +kernel
theorem dL_law_1326 : decode cL_law 1326 = .ok (.istore 6, 2) := by decide +kernel
theorem dL_law_1328 : decode cL_law 1328 = .ok (.aload_n 2, 1) := by decide +kernel
theorem dL_law_1329 : decode cL_law 1329 = .ok (.invokevirtual 84, 3) := by decide +kernel
theorem dL_law_1332 : decode cL_law 1332 = .ok (.iload 5, 2) := by decide +kernel
theorem dL_law_1334 : decode cL_law 1334 = .ok (.if_icmp .eq 5, 3) := by decide +kernel
theorem dL_law_1337 : decode cL_law 1337 = .ok (.iconst 0, 1) := by decide +kernel
theorem dL_law_1338 : decode cL_law 1338 = .ok (.ireturn, 1) := by decide +kernel
theorem dL_law_1339 : decode cL_law 1339 = .ok (.iload 5, 2) := by decide +kernel
theorem dL_law_1341 : decode cL_law 1341 = .ok (.ifCond .ne 15, 3) := by decide +kernel
theorem dL_law_1344 : decode cL_law 1344 = .ok (.aload_n 3, 1) := by decide +kernel
theorem dL_law_1345 : decode cL_law 1345 = .ok (.iconst 0, 1) := by decide +kernel
theorem dL_law_1346 : decode cL_law 1346 = .ok (.laload, 1) := by decide +kernel
theorem dL_law_1347 : decode cL_law 1347 = .ok (.iload 6, 2) := by decide +kernel
theorem dL_law_1349 : decode cL_law 1349 = .ok (.i2l, 1) := by decide +kernel
theorem dL_law_1350 : decode cL_law 1350 = .ok (.lcmp, 1) := by decide +kernel
theorem dL_law_1351 : decode cL_law 1351 = .ok (.ifCond .eq 5, 3) := by decide +kernel
theorem dL_law_1354 : decode cL_law 1354 = .ok (.iconst 0, 1) := by decide +kernel
theorem dL_law_1355 : decode cL_law 1355 = .ok (.ireturn, 1) := by decide +kernel
theorem dL_law_1356 : decode cL_law 1356 = .ok (.goto 71, 3) := by decide +kernel
theorem dL_law_1359 : decode cL_law 1359 = .ok (.aload_n 1, 1) := by decide +kernel
theorem dL_law_1360 : decode cL_law 1360 = .ok (.invokevirtual 143, 3) := by decide +kernel
theorem dL_law_1363 : decode cL_law 1363 = .ok (.aload_n 2, 1) := by decide +kernel
theorem dL_law_1364 : decode cL_law 1364 = .ok (.invokevirtual 146, 3) := by decide +kernel
theorem dL_law_1367 : decode cL_law 1367 = .ok (.if_icmp .eq 60, 3) := by decide +kernel
theorem dL_law_1370 : decode cL_law 1370 = .ok (.iconst 0, 1) := by decide +kernel
theorem dL_law_1371 : decode cL_law 1371 = .ok (.ireturn, 1) := by decide +kernel
theorem dL_law_1372 : decode cL_law 1372 = .ok (.aload_n 1, 1) := by decide +kernel
theorem dL_law_1373 : decode cL_law 1373 = .ok (.invokevirtual 147, 3) := by decide +kernel
theorem dL_law_1376 : decode cL_law 1376 = .ok (.dstore 5, 2) := by decide +kernel
theorem dL_law_1378 : decode cL_law 1378 = .ok (.aload_n 2, 1) := by decide +kernel
theorem dL_law_1379 : decode cL_law 1379 = .ok (.invokevirtual 151, 3) := by decide +kernel
theorem dL_law_1382 : decode cL_law 1382 = .ok (.dstore 7, 2) := by decide +kernel
theorem dL_law_1384 : decode cL_law 1384 = .ok (.dload 5, 2) := by decide +kernel
theorem dL_law_1386 : decode cL_law 1386 = .ok (.dload 7, 2) := by decide +kernel
theorem dL_law_1388 : decode cL_law 1388 = .ok (.dcmp .l, 1) := by decide +kernel
theorem dL_law_1389 : decode cL_law 1389 = .ok (.ifCond .eq 21, 3) := by decide +kernel
theorem dL_law_1392 : decode cL_law 1392 = .ok (.dload 5, 2) := by decide +kernel
theorem dL_law_1394 : decode cL_law 1394 = .ok (.dload 5, 2) := by decide +kernel
theorem dL_law_1396 : decode cL_law 1396 = .ok (.dcmp .l, 1) := by decide +kernel
theorem dL_law_1397 : decode cL_law 1397 = .ok (.ifCond .eq 11, 3) := by decide +kernel
theorem dL_law_1400 : decode cL_law 1400 = .ok (.dload 7, 2) := by decide +kernel
theorem dL_law_1402 : decode cL_law 1402 = .ok (.dload 7, 2) := by decide +kernel
theorem dL_law_1404 : decode cL_law 1404 = .ok (.dcmp .l, 1) := by decide +kernel
theorem dL_law_1405 : decode cL_law 1405 = .ok (.ifCond .ne 5, 3) := by decide +kernel
theorem dL_law_1408 : decode cL_law 1408 = .ok (.iconst 0, 1) := by decide +kernel
theorem dL_law_1409 : decode cL_law 1409 = .ok (.ireturn, 1) := by decide +kernel
theorem dL_law_1410 : decode cL_law 1410 = .ok (.goto 17, 3) := by decide +kernel
theorem dL_law_1413 : decode cL_law 1413 = .ok (.aload_n 1, 1) := by decide +kernel
theorem dL_law_1414 : decode cL_law 1414 = .ok (.invokevirtual 152, 3) := by decide +kernel
theorem dL_law_1417 : decode cL_law 1417 = .ok (.aload_n 2, 1) := by decide +kernel
theorem dL_law_1418 : decode cL_law 1418 = .ok (.invokevirtual 156, 3) := by decide +kernel
theorem dL_law_1421 : decode cL_law 1421 = .ok (.lcmp, 1) := by decide +kernel
theorem dL_law_1422 : decode cL_law 1422 = .ok (.ifCond .eq 5, 3) := by decide +kernel
theorem dL_law_1425 : decode cL_law 1425 = .ok (.iconst 0, 1) := by decide +kernel
theorem dL_law_1426 : decode cL_law 1426 = .ok (.ireturn, 1) := by decide +kernel
theorem dL_law_1427 : decode cL_law 1427 = .ok (.iinc 4 5, 3) := by decide +kernel
theorem dL_law_1430 : decode cL_law 1430 = .ok (.goto (-1407), 3) := by decide +kernel
theorem dL_law_1433 : decode cL_law 1433 = .ok (.iconst 1, 1) := by decide +kernel
theorem dL_law_1434 : decode cL_law 1434 = .ok (.ireturn, 1) := by decide +kernel
end
section
/-! the words of the tables that a method may rest on: those that stay as the tables warm -/
def UW : List Cond := lw_tbl.filter goodWord
theorem wU {w : Cond} (i : Nat) (h : tables_1[i]? = some w) (hg : goodWord w = true) : w ∈ UW := List.mem_filter.mpr ⟨List.mem_append_right _ (List.mem_of_getElem? h), hg⟩
theorem wV {w : Cond} (i : Nat) (h : (k2_sels lw_privs)[i]? = some w) (hg : goodWord w = true) : w ∈ UW := List.mem_filter.mpr ⟨List.mem_append_left _ (List.mem_of_getElem? h), hg⟩
theorem wz_L : (Cond.initialized "RoofWaterLaw") ∈ UW := wU 0 (by decide +kernel) (by decide +kernel)
theorem wz_X4 : (Cond.initialized "RoofWater") ∈ UW := wU 1 (by decide +kernel) (by decide +kernel)
theorem wz_X3 : (Cond.initialized "RoofWater$Weather") ∈ UW := wU 2 (by decide +kernel) (by decide +kernel)
theorem wz_X2 : (Cond.initialized "RoofWater$Village") ∈ UW := wU 3 (by decide +kernel) (by decide +kernel)
theorem wz_X0 : (Cond.initialized "RoofWater$House") ∈ UW := wU 4 (by decide +kernel) (by decide +kernel)
theorem wz_X1 : (Cond.initialized "RoofWater$Pipe") ∈ UW := wU 5 (by decide +kernel) (by decide +kernel)
theorem wz_X5 : (Cond.initialized "RoofWaterModel") ∈ UW := wU 6 (by decide +kernel) (by decide +kernel)
theorem wz_Throwable : (Cond.initialized "java/lang/Throwable") ∈ UW := wU 7 (by decide +kernel) (by decide +kernel)
theorem wz_Exception : (Cond.initialized "java/lang/Exception") ∈ UW := wU 8 (by decide +kernel) (by decide +kernel)
theorem wz_RuntimeException : (Cond.initialized "java/lang/RuntimeException") ∈ UW := wU 9 (by decide +kernel) (by decide +kernel)
theorem wz_IndexOutOfBoundsException : (Cond.initialized "java/lang/IndexOutOfBoundsException") ∈ UW := wU 10 (by decide +kernel) (by decide +kernel)
theorem wz_IllegalArgumentException : (Cond.initialized "java/lang/IllegalArgumentException") ∈ UW := wU 11 (by decide +kernel) (by decide +kernel)
theorem wz_IllegalStateException : (Cond.initialized "java/lang/IllegalStateException") ∈ UW := wU 12 (by decide +kernel) (by decide +kernel)
theorem wz_J10 : (Cond.initialized "java/lang/System") ∈ UW := wU 13 (by decide +kernel) (by decide +kernel)
theorem wz_J9 : (Cond.initialized "java/lang/Math") ∈ UW := wU 14 (by decide +kernel) (by decide +kernel)
theorem wk_L_8 : (Cond.classLink "RoofWaterLaw" 8 "RoofWater") ∈ UW := wU 15 (by decide +kernel) (by decide +kernel)
theorem wn_X4 : (Cond.instantiable "RoofWater" 3) ∈ UW := wU 16 (by decide +kernel) (by decide +kernel)
theorem wm_L_74 : (Cond.methodLink "RoofWaterLaw" 74 yX4_init) ∈ UW := wU 17 (by decide +kernel) (by decide +kernel)
theorem wi_X4_init : (Cond.instanceMethod yX4_init) ∈ UW := wU 18 (by decide +kernel) (by decide +kernel)
theorem wc_X4_init : (Cond.code yX4_init cX4_init 1 (Option.none : Option FieldType)) ∈ UW := wU 19 (by decide +kernel) (by decide +kernel)
theorem wm_X4_1 : (Cond.methodLink "RoofWater" 1 ({ cls := "java/lang/Object", name := "<init>", desc := "()V" } : MethodName)) ∈ UW := wU 20 (by decide +kernel) (by decide +kernel)
theorem wi_Object__init_ : (Cond.instanceMethod ({ cls := "java/lang/Object", name := "<init>", desc := "()V" } : MethodName)) ∈ UW := wU 21 (by decide +kernel) (by decide +kernel)
theorem wc_Object__init_ : (Cond.code ({ cls := "java/lang/Object", name := "<init>", desc := "()V" } : MethodName) object_method_1_code 1 (Option.none : Option FieldType)) ∈ UW := wU 22 (by decide +kernel) (by decide +kernel)
theorem wk_X4_7 : (Cond.classLink "RoofWater" 7 "RoofWater$Weather") ∈ UW := wU 23 (by decide +kernel) (by decide +kernel)
theorem wn_X3 : (Cond.instantiable "RoofWater$Weather" 2) ∈ UW := wU 24 (by decide +kernel) (by decide +kernel)
theorem wi_X3_init : (Cond.instanceMethod yX3_init) ∈ UW := wU 26 (by decide +kernel) (by decide +kernel)
theorem wc_X3_init : (Cond.code yX3_init cX3_init 1 (Option.none : Option FieldType)) ∈ UW := wU 27 (by decide +kernel) (by decide +kernel)
theorem wm_X3_1 : (Cond.methodLink "RoofWater$Weather" 1 ({ cls := "java/lang/Object", name := "<init>", desc := "()V" } : MethodName)) ∈ UW := wU 28 (by decide +kernel) (by decide +kernel)
theorem wf_X3_9 : (Cond.fieldLink "RoofWater$Weather" 9 "RoofWater$Weather" "rain" "[I") ∈ UW := wU 29 (by decide +kernel) (by decide +kernel)
theorem wf_X3_13 : (Cond.fieldLink "RoofWater$Weather" 13 "RoofWater$Weather" "leaves" "[I") ∈ UW := wU 30 (by decide +kernel) (by decide +kernel)
theorem wl_X3_rain : (Cond.laysFinal "RoofWater$Weather" "RoofWater$Weather" "rain" "[I") ∈ UW := wU 31 (by decide +kernel) (by decide +kernel)
theorem wl_X3_leaves : (Cond.laysFinal "RoofWater$Weather" "RoofWater$Weather" "leaves" "[I") ∈ UW := wU 33 (by decide +kernel) (by decide +kernel)
theorem wa_int : (Cond.arrayClass FieldType.int) ∈ UW := wU 36 (by decide +kernel) (by decide +kernel)
theorem wk_X4_16 : (Cond.classLink "RoofWater" 16 "RoofWater$Village") ∈ UW := wU 37 (by decide +kernel) (by decide +kernel)
theorem wn_X2 : (Cond.instantiable "RoofWater$Village" 10) ∈ UW := wU 38 (by decide +kernel) (by decide +kernel)
theorem wm_X4_18 : (Cond.methodLink "RoofWater" 18 yX2_init) ∈ UW := wU 39 (by decide +kernel) (by decide +kernel)
theorem wi_X2_init : (Cond.instanceMethod yX2_init) ∈ UW := wU 40 (by decide +kernel) (by decide +kernel)
theorem wc_X2_init : (Cond.code yX2_init cX2_init 3 (Option.none : Option FieldType)) ∈ UW := wU 41 (by decide +kernel) (by decide +kernel)
theorem wm_X2_3 : (Cond.methodLink "RoofWater$Village" 3 ({ cls := "java/lang/Object", name := "<init>", desc := "()V" } : MethodName)) ∈ UW := wU 42 (by decide +kernel) (by decide +kernel)
theorem wk_X2_11 : (Cond.classLink "RoofWater$Village" 11 "RoofWater$House") ∈ UW := wU 43 (by decide +kernel) (by decide +kernel)
theorem wk_X2_17 : (Cond.classLink "RoofWater$Village" 17 "RoofWater$Pipe") ∈ UW := wU 45 (by decide +kernel) (by decide +kernel)
theorem wn_X0 : (Cond.instantiable "RoofWater$House" 10) ∈ UW := wU 47 (by decide +kernel) (by decide +kernel)
theorem wi_X0_init : (Cond.instanceMethod yX0_init) ∈ UW := wU 49 (by decide +kernel) (by decide +kernel)
theorem wc_X0_init : (Cond.code yX0_init cX0_init 1 (Option.none : Option FieldType)) ∈ UW := wU 50 (by decide +kernel) (by decide +kernel)
theorem wm_X0_3 : (Cond.methodLink "RoofWater$House" 3 ({ cls := "java/lang/Object", name := "<init>", desc := "()V" } : MethodName)) ∈ UW := wU 51 (by decide +kernel) (by decide +kernel)
theorem wf_X0_15 : (Cond.fieldLink "RoofWater$House" 15 "RoofWater$House" "roof" "I") ∈ UW := wU 52 (by decide +kernel) (by decide +kernel)
theorem wf_X2_58 : (Cond.fieldLink "RoofWater$Village" 58 "RoofWater$House" "roof" "I") ∈ UW := wU 53 (by decide +kernel) (by decide +kernel)
theorem wf_X0_18 : (Cond.fieldLink "RoofWater$House" 18 "RoofWater$House" "holds" "I") ∈ UW := wU 54 (by decide +kernel) (by decide +kernel)
theorem wf_X1_29 : (Cond.fieldLink "RoofWater$Pipe" 29 "RoofWater$House" "holds" "I") ∈ UW := wU 55 (by decide +kernel) (by decide +kernel)
theorem wf_X2_61 : (Cond.fieldLink "RoofWater$Village" 61 "RoofWater$House" "holds" "I") ∈ UW := wU 56 (by decide +kernel) (by decide +kernel)
theorem wf_X0_21 : (Cond.fieldLink "RoofWater$House" 21 "RoofWater$House" "water" "I") ∈ UW := wU 57 (by decide +kernel) (by decide +kernel)
theorem wf_X1_34 : (Cond.fieldLink "RoofWater$Pipe" 34 "RoofWater$House" "water" "I") ∈ UW := wU 58 (by decide +kernel) (by decide +kernel)
theorem wf_X2_151 : (Cond.fieldLink "RoofWater$Village" 151 "RoofWater$House" "water" "I") ∈ UW := wU 59 (by decide +kernel) (by decide +kernel)
theorem wf_X0_24 : (Cond.fieldLink "RoofWater$House" 24 "RoofWater$House" "people" "I") ∈ UW := wU 60 (by decide +kernel) (by decide +kernel)
theorem wf_X2_64 : (Cond.fieldLink "RoofWater$Village" 64 "RoofWater$House" "people" "I") ∈ UW := wU 61 (by decide +kernel) (by decide +kernel)
theorem wf_X4_112 : (Cond.fieldLink "RoofWater" 112 "RoofWater$House" "people" "I") ∈ UW := wU 62 (by decide +kernel) (by decide +kernel)
theorem wf_X0_27 : (Cond.fieldLink "RoofWater$House" 27 "RoofWater$House" "garden" "I") ∈ UW := wU 63 (by decide +kernel) (by decide +kernel)
theorem wf_X2_67 : (Cond.fieldLink "RoofWater$Village" 67 "RoofWater$House" "garden" "I") ∈ UW := wU 64 (by decide +kernel) (by decide +kernel)
theorem wf_X0_30 : (Cond.fieldLink "RoofWater$House" 30 "RoofWater$House" "clogged" "I") ∈ UW := wU 65 (by decide +kernel) (by decide +kernel)
theorem wf_X4_102 : (Cond.fieldLink "RoofWater" 102 "RoofWater$House" "clogged" "I") ∈ UW := wU 66 (by decide +kernel) (by decide +kernel)
theorem wf_X0_9 : (Cond.fieldLink "RoofWater$House" 9 "RoofWater$House" "next" "I") ∈ UW := wU 67 (by decide +kernel) (by decide +kernel)
theorem wf_X4_74 : (Cond.fieldLink "RoofWater" 74 "RoofWater$House" "next" "I") ∈ UW := wU 68 (by decide +kernel) (by decide +kernel)
theorem wf_X2_87 : (Cond.fieldLink "RoofWater$Village" 87 "RoofWater$House" "next" "I") ∈ UW := wU 69 (by decide +kernel) (by decide +kernel)
theorem wf_X0_33 : (Cond.fieldLink "RoofWater$House" 33 "RoofWater$House" "thirst" "I") ∈ UW := wU 70 (by decide +kernel) (by decide +kernel)
theorem wf_X2_154 : (Cond.fieldLink "RoofWater$Village" 154 "RoofWater$House" "thirst" "I") ∈ UW := wU 71 (by decide +kernel) (by decide +kernel)
theorem wf_X0_36 : (Cond.fieldLink "RoofWater$House" 36 "RoofWater$House" "watered" "I") ∈ UW := wU 72 (by decide +kernel) (by decide +kernel)
theorem wf_X2_157 : (Cond.fieldLink "RoofWater$Village" 157 "RoofWater$House" "watered" "I") ∈ UW := wU 73 (by decide +kernel) (by decide +kernel)
theorem wf_X0_39 : (Cond.fieldLink "RoofWater$House" 39 "RoofWater$House" "thirstyDays" "I") ∈ UW := wU 74 (by decide +kernel) (by decide +kernel)
theorem wf_X2_101 : (Cond.fieldLink "RoofWater$Village" 101 "RoofWater$House" "thirstyDays" "I") ∈ UW := wU 75 (by decide +kernel) (by decide +kernel)
theorem wl_X0_roof : (Cond.lays "RoofWater$House" "RoofWater$House" "roof" "I") ∈ UW := wU 76 (by decide +kernel) (by decide +kernel)
theorem wl_X0_holds : (Cond.lays "RoofWater$House" "RoofWater$House" "holds" "I") ∈ UW := wU 78 (by decide +kernel) (by decide +kernel)
theorem wl_X0_water : (Cond.lays "RoofWater$House" "RoofWater$House" "water" "I") ∈ UW := wU 80 (by decide +kernel) (by decide +kernel)
theorem wl_X0_people : (Cond.lays "RoofWater$House" "RoofWater$House" "people" "I") ∈ UW := wU 82 (by decide +kernel) (by decide +kernel)
theorem wl_X0_garden : (Cond.lays "RoofWater$House" "RoofWater$House" "garden" "I") ∈ UW := wU 84 (by decide +kernel) (by decide +kernel)
theorem wl_X0_clogged : (Cond.lays "RoofWater$House" "RoofWater$House" "clogged" "I") ∈ UW := wU 86 (by decide +kernel) (by decide +kernel)
theorem wl_X0_next : (Cond.lays "RoofWater$House" "RoofWater$House" "next" "I") ∈ UW := wU 88 (by decide +kernel) (by decide +kernel)
theorem wl_X0_thirst : (Cond.lays "RoofWater$House" "RoofWater$House" "thirst" "I") ∈ UW := wU 90 (by decide +kernel) (by decide +kernel)
theorem wl_X0_watered : (Cond.lays "RoofWater$House" "RoofWater$House" "watered" "I") ∈ UW := wU 92 (by decide +kernel) (by decide +kernel)
theorem wl_X0_thirstyDays : (Cond.lays "RoofWater$House" "RoofWater$House" "thirstyDays" "I") ∈ UW := wU 94 (by decide +kernel) (by decide +kernel)
theorem wn_X1 : (Cond.instantiable "RoofWater$Pipe" 6) ∈ UW := wU 97 (by decide +kernel) (by decide +kernel)
theorem wi_X1_init : (Cond.instanceMethod yX1_init) ∈ UW := wU 99 (by decide +kernel) (by decide +kernel)
theorem wc_X1_init : (Cond.code yX1_init cX1_init 1 (Option.none : Option FieldType)) ∈ UW := wU 100 (by decide +kernel) (by decide +kernel)
theorem wm_X1_1 : (Cond.methodLink "RoofWater$Pipe" 1 ({ cls := "java/lang/Object", name := "<init>", desc := "()V" } : MethodName)) ∈ UW := wU 101 (by decide +kernel) (by decide +kernel)
theorem wf_X1_7 : (Cond.fieldLink "RoofWater$Pipe" 7 "RoofWater$Pipe" "a" "I") ∈ UW := wU 102 (by decide +kernel) (by decide +kernel)
theorem wf_X2_70 : (Cond.fieldLink "RoofWater$Village" 70 "RoofWater$Pipe" "a" "I") ∈ UW := wU 103 (by decide +kernel) (by decide +kernel)
theorem wf_X1_13 : (Cond.fieldLink "RoofWater$Pipe" 13 "RoofWater$Pipe" "b" "I") ∈ UW := wU 104 (by decide +kernel) (by decide +kernel)
theorem wf_X2_73 : (Cond.fieldLink "RoofWater$Village" 73 "RoofWater$Pipe" "b" "I") ∈ UW := wU 105 (by decide +kernel) (by decide +kernel)
theorem wf_X1_16 : (Cond.fieldLink "RoofWater$Pipe" 16 "RoofWater$Pipe" "lets" "I") ∈ UW := wU 106 (by decide +kernel) (by decide +kernel)
theorem wf_X2_76 : (Cond.fieldLink "RoofWater$Village" 76 "RoofWater$Pipe" "lets" "I") ∈ UW := wU 107 (by decide +kernel) (by decide +kernel)
theorem wf_X1_19 : (Cond.fieldLink "RoofWater$Pipe" 19 "RoofWater$Pipe" "isOpen" "Z") ∈ UW := wU 108 (by decide +kernel) (by decide +kernel)
theorem wf_X4_96 : (Cond.fieldLink "RoofWater" 96 "RoofWater$Pipe" "isOpen" "Z") ∈ UW := wU 109 (by decide +kernel) (by decide +kernel)
theorem wf_X2_79 : (Cond.fieldLink "RoofWater$Village" 79 "RoofWater$Pipe" "isOpen" "Z") ∈ UW := wU 110 (by decide +kernel) (by decide +kernel)
theorem wf_X1_23 : (Cond.fieldLink "RoofWater$Pipe" 23 "RoofWater$Pipe" "through" "I") ∈ UW := wU 111 (by decide +kernel) (by decide +kernel)
theorem wf_X1_26 : (Cond.fieldLink "RoofWater$Pipe" 26 "RoofWater$Pipe" "toB" "I") ∈ UW := wU 112 (by decide +kernel) (by decide +kernel)
theorem wl_X1_a : (Cond.lays "RoofWater$Pipe" "RoofWater$Pipe" "a" "I") ∈ UW := wU 113 (by decide +kernel) (by decide +kernel)
theorem wl_X1_b : (Cond.lays "RoofWater$Pipe" "RoofWater$Pipe" "b" "I") ∈ UW := wU 115 (by decide +kernel) (by decide +kernel)
theorem wl_X1_lets : (Cond.lays "RoofWater$Pipe" "RoofWater$Pipe" "lets" "I") ∈ UW := wU 117 (by decide +kernel) (by decide +kernel)
theorem wl_X1_isOpen : (Cond.lays "RoofWater$Pipe" "RoofWater$Pipe" "isOpen" "Z") ∈ UW := wU 119 (by decide +kernel) (by decide +kernel)
theorem wl_X1_through : (Cond.lays "RoofWater$Pipe" "RoofWater$Pipe" "through" "I") ∈ UW := wU 121 (by decide +kernel) (by decide +kernel)
theorem wl_X1_toB : (Cond.lays "RoofWater$Pipe" "RoofWater$Pipe" "toB" "I") ∈ UW := wU 123 (by decide +kernel) (by decide +kernel)
theorem wf_X2_23 : (Cond.fieldLink "RoofWater$Village" 23 "RoofWater$Village" "weather" "LRoofWater$Weather;") ∈ UW := wU 126 (by decide +kernel) (by decide +kernel)
theorem wf_X2_13 : (Cond.fieldLink "RoofWater$Village" 13 "RoofWater$Village" "houses" "[LRoofWater$House;") ∈ UW := wU 127 (by decide +kernel) (by decide +kernel)
theorem wf_X4_70 : (Cond.fieldLink "RoofWater" 70 "RoofWater$Village" "houses" "[LRoofWater$House;") ∈ UW := wU 128 (by decide +kernel) (by decide +kernel)
theorem wf_X2_19 : (Cond.fieldLink "RoofWater$Village" 19 "RoofWater$Village" "pipes" "[LRoofWater$Pipe;") ∈ UW := wU 129 (by decide +kernel) (by decide +kernel)
theorem wf_X4_92 : (Cond.fieldLink "RoofWater" 92 "RoofWater$Village" "pipes" "[LRoofWater$Pipe;") ∈ UW := wU 130 (by decide +kernel) (by decide +kernel)
theorem wf_X2_29 : (Cond.fieldLink "RoofWater$Village" 29 "RoofWater$Village" "houseCount" "I") ∈ UW := wU 131 (by decide +kernel) (by decide +kernel)
theorem wf_X4_47 : (Cond.fieldLink "RoofWater" 47 "RoofWater$Village" "houseCount" "I") ∈ UW := wU 132 (by decide +kernel) (by decide +kernel)
theorem wf_X2_33 : (Cond.fieldLink "RoofWater$Village" 33 "RoofWater$Village" "pipeCount" "I") ∈ UW := wU 133 (by decide +kernel) (by decide +kernel)
theorem wf_X4_82 : (Cond.fieldLink "RoofWater" 82 "RoofWater$Village" "pipeCount" "I") ∈ UW := wU 134 (by decide +kernel) (by decide +kernel)
theorem wf_X2_36 : (Cond.fieldLink "RoofWater$Village" 36 "RoofWater$Village" "day" "I") ∈ UW := wU 135 (by decide +kernel) (by decide +kernel)
theorem wf_X2_39 : (Cond.fieldLink "RoofWater$Village" 39 "RoofWater$Village" "fromRoofs" "I") ∈ UW := wU 136 (by decide +kernel) (by decide +kernel)
theorem wf_X2_42 : (Cond.fieldLink "RoofWater$Village" 42 "RoofWater$Village" "lost" "I") ∈ UW := wU 137 (by decide +kernel) (by decide +kernel)
theorem wf_X4_136 : (Cond.fieldLink "RoofWater" 136 "RoofWater$Village" "lost" "I") ∈ UW := wU 138 (by decide +kernel) (by decide +kernel)
theorem wf_X2_45 : (Cond.fieldLink "RoofWater$Village" 45 "RoofWater$Village" "drunk" "I") ∈ UW := wU 139 (by decide +kernel) (by decide +kernel)
theorem wf_X2_48 : (Cond.fieldLink "RoofWater$Village" 48 "RoofWater$Village" "carted" "I") ∈ UW := wU 140 (by decide +kernel) (by decide +kernel)
theorem wf_X4_105 : (Cond.fieldLink "RoofWater" 105 "RoofWater$Village" "carted" "I") ∈ UW := wU 141 (by decide +kernel) (by decide +kernel)
theorem wl_X2_weather : (Cond.laysFinal "RoofWater$Village" "RoofWater$Village" "weather" "LRoofWater$Weather;") ∈ UW := wU 142 (by decide +kernel) (by decide +kernel)
theorem wl_X2_houses : (Cond.laysFinal "RoofWater$Village" "RoofWater$Village" "houses" "[LRoofWater$House;") ∈ UW := wU 144 (by decide +kernel) (by decide +kernel)
theorem wl_X2_pipes : (Cond.laysFinal "RoofWater$Village" "RoofWater$Village" "pipes" "[LRoofWater$Pipe;") ∈ UW := wU 146 (by decide +kernel) (by decide +kernel)
theorem wl_X2_houseCount : (Cond.lays "RoofWater$Village" "RoofWater$Village" "houseCount" "I") ∈ UW := wU 148 (by decide +kernel) (by decide +kernel)
theorem wl_X2_pipeCount : (Cond.lays "RoofWater$Village" "RoofWater$Village" "pipeCount" "I") ∈ UW := wU 150 (by decide +kernel) (by decide +kernel)
theorem wl_X2_day : (Cond.lays "RoofWater$Village" "RoofWater$Village" "day" "I") ∈ UW := wU 152 (by decide +kernel) (by decide +kernel)
theorem wl_X2_fromRoofs : (Cond.lays "RoofWater$Village" "RoofWater$Village" "fromRoofs" "I") ∈ UW := wU 154 (by decide +kernel) (by decide +kernel)
theorem wl_X2_lost : (Cond.lays "RoofWater$Village" "RoofWater$Village" "lost" "I") ∈ UW := wU 156 (by decide +kernel) (by decide +kernel)
theorem wl_X2_drunk : (Cond.lays "RoofWater$Village" "RoofWater$Village" "drunk" "I") ∈ UW := wU 158 (by decide +kernel) (by decide +kernel)
theorem wl_X2_carted : (Cond.lays "RoofWater$Village" "RoofWater$Village" "carted" "I") ∈ UW := wU 160 (by decide +kernel) (by decide +kernel)
theorem wf_X4_10 : (Cond.fieldLink "RoofWater" 10 "RoofWater" "weather" "LRoofWater$Weather;") ∈ UW := wU 163 (by decide +kernel) (by decide +kernel)
theorem wf_X4_21 : (Cond.fieldLink "RoofWater" 21 "RoofWater" "village" "LRoofWater$Village;") ∈ UW := wU 164 (by decide +kernel) (by decide +kernel)
theorem wf_X4_25 : (Cond.fieldLink "RoofWater" 25 "RoofWater" "trial" "LRoofWater$Village;") ∈ UW := wU 165 (by decide +kernel) (by decide +kernel)
theorem wl_X4_weather : (Cond.laysFinal "RoofWater" "RoofWater" "weather" "LRoofWater$Weather;") ∈ UW := wU 166 (by decide +kernel) (by decide +kernel)
theorem wl_X4_village : (Cond.laysFinal "RoofWater" "RoofWater" "village" "LRoofWater$Village;") ∈ UW := wU 168 (by decide +kernel) (by decide +kernel)
theorem wl_X4_trial : (Cond.laysFinal "RoofWater" "RoofWater" "trial" "LRoofWater$Village;") ∈ UW := wU 170 (by decide +kernel) (by decide +kernel)
theorem wm_L_143 : (Cond.methodLink "RoofWaterLaw" 143 yX4_drought) ∈ UW := wU 173 (by decide +kernel) (by decide +kernel)
theorem wi_X4_drought : (Cond.instanceMethod yX4_drought) ∈ UW := wU 174 (by decide +kernel) (by decide +kernel)
theorem ws_X4_drought : (Cond.selects "RoofWater" yX4_drought yX4_drought) ∈ UW := wU 175 (by decide +kernel) (by decide +kernel)
theorem wc_X4_drought : (Cond.code yX4_drought cX4_drought 1 (Option.some FieldType.int)) ∈ UW := wU 176 (by decide +kernel) (by decide +kernel)
theorem wm_X4_145 : (Cond.methodLink "RoofWater" 145 yX3_longestDryRow) ∈ UW := wU 177 (by decide +kernel) (by decide +kernel)
theorem wi_X3_longestDryRow : (Cond.instanceMethod yX3_longestDryRow) ∈ UW := wU 178 (by decide +kernel) (by decide +kernel)
theorem ws_X3_longestDryRow : (Cond.selects "RoofWater$Weather" yX3_longestDryRow yX3_longestDryRow) ∈ UW := wU 179 (by decide +kernel) (by decide +kernel)
theorem wc_X3_longestDryRow : (Cond.code yX3_longestDryRow cX3_longestDryRow 4 (Option.some FieldType.int)) ∈ UW := wU 180 (by decide +kernel) (by decide +kernel)
theorem wm_X3_22 : (Cond.methodLink "RoofWater$Weather" 22 yJ9_max_7cf53) ∈ UW := wU 181 (by decide +kernel) (by decide +kernel)
theorem wt_J9_max_7cf53 : (Cond.static yJ9_max_7cf53) ∈ UW := wU 182 (by decide +kernel) (by decide +kernel)
theorem wc_J9_max_7cf53 : (Cond.code yJ9_max_7cf53 cJ9_max_7cf53 2 (Option.some FieldType.int)) ∈ UW := wU 183 (by decide +kernel) (by decide +kernel)
theorem wm_X3_25 : (Cond.methodLink "RoofWater$Weather" 25 yJ9_min_7cf53) ∈ UW := wU 184 (by decide +kernel) (by decide +kernel)
theorem wt_J9_min_7cf53 : (Cond.static yJ9_min_7cf53) ∈ UW := wU 185 (by decide +kernel) (by decide +kernel)
theorem wc_J9_min_7cf53 : (Cond.code yJ9_min_7cf53 cJ9_min_7cf53 2 (Option.some FieldType.int)) ∈ UW := wU 186 (by decide +kernel) (by decide +kernel)
theorem wm_L_147 : (Cond.methodLink "RoofWaterLaw" 147 yX4_full) ∈ UW := wU 187 (by decide +kernel) (by decide +kernel)
theorem wi_X4_full : (Cond.instanceMethod yX4_full) ∈ UW := wU 188 (by decide +kernel) (by decide +kernel)
theorem ws_X4_full : (Cond.selects "RoofWater" yX4_full yX4_full) ∈ UW := wU 189 (by decide +kernel) (by decide +kernel)
theorem wc_X4_full : (Cond.code yX4_full cX4_full 2 (Option.some FieldType.double)) ∈ UW := wU 190 (by decide +kernel) (by decide +kernel)
theorem wm_X4_148 : (Cond.methodLink "RoofWater" 148 yX2_allHolds) ∈ UW := wU 191 (by decide +kernel) (by decide +kernel)
theorem wi_X2_allHolds : (Cond.instanceMethod yX2_allHolds) ∈ UW := wU 192 (by decide +kernel) (by decide +kernel)
theorem ws_X2_allHolds : (Cond.selects "RoofWater$Village" yX2_allHolds yX2_allHolds) ∈ UW := wU 193 (by decide +kernel) (by decide +kernel)
theorem wc_X2_allHolds : (Cond.code yX2_allHolds cX2_allHolds 3 (Option.some FieldType.int)) ∈ UW := wU 194 (by decide +kernel) (by decide +kernel)
theorem wm_X4_132 : (Cond.methodLink "RoofWater" 132 yX2_allWater) ∈ UW := wU 195 (by decide +kernel) (by decide +kernel)
theorem wi_X2_allWater : (Cond.instanceMethod yX2_allWater) ∈ UW := wU 196 (by decide +kernel) (by decide +kernel)
theorem ws_X2_allWater : (Cond.selects "RoofWater$Village" yX2_allWater yX2_allWater) ∈ UW := wU 197 (by decide +kernel) (by decide +kernel)
theorem wc_X2_allWater : (Cond.code yX2_allWater cX2_allWater 3 (Option.some FieldType.int)) ∈ UW := wU 198 (by decide +kernel) (by decide +kernel)
theorem wm_L_152 : (Cond.methodLink "RoofWaterLaw" 152 yX4_digest) ∈ UW := wU 199 (by decide +kernel) (by decide +kernel)
theorem wi_X4_digest : (Cond.instanceMethod yX4_digest) ∈ UW := wU 200 (by decide +kernel) (by decide +kernel)
theorem ws_X4_digest : (Cond.selects "RoofWater" yX4_digest yX4_digest) ∈ UW := wU 201 (by decide +kernel) (by decide +kernel)
theorem wc_X4_digest : (Cond.code yX4_digest cX4_digest 4 (Option.some FieldType.long)) ∈ UW := wU 202 (by decide +kernel) (by decide +kernel)
theorem wq_X4_151 : (Cond.constantLong "RoofWater" 151 (673 : Int64)) ∈ UW := wU 203 (by decide +kernel) (by decide +kernel)
theorem wm_X4_125 : (Cond.methodLink "RoofWater" 125 yX2_total) ∈ UW := wU 204 (by decide +kernel) (by decide +kernel)
theorem wi_X2_total : (Cond.instanceMethod yX2_total) ∈ UW := wU 205 (by decide +kernel) (by decide +kernel)
theorem ws_X2_total : (Cond.selects "RoofWater$Village" yX2_total yX2_total) ∈ UW := wU 206 (by decide +kernel) (by decide +kernel)
theorem wc_X2_total : (Cond.code yX2_total cX2_total 2 (Option.some FieldType.int)) ∈ UW := wU 207 (by decide +kernel) (by decide +kernel)
theorem wm_X2_142 : (Cond.methodLink "RoofWater$Village" 142 yX2_allWater) ∈ UW := wU 208 (by decide +kernel) (by decide +kernel)
theorem wm_X2_94 : (Cond.methodLink "RoofWater$Village" 94 yX2_allThirst) ∈ UW := wU 209 (by decide +kernel) (by decide +kernel)
theorem wi_X2_allThirst : (Cond.instanceMethod yX2_allThirst) ∈ UW := wU 211 (by decide +kernel) (by decide +kernel)
theorem wc_X2_allThirst : (Cond.code yX2_allThirst cX2_allThirst 3 (Option.some FieldType.int)) ∈ UW := wU 212 (by decide +kernel) (by decide +kernel)
theorem wm_X2_145 : (Cond.methodLink "RoofWater$Village" 145 yX2_allWatered) ∈ UW := wU 213 (by decide +kernel) (by decide +kernel)
theorem wi_X2_allWatered : (Cond.instanceMethod yX2_allWatered) ∈ UW := wU 215 (by decide +kernel) (by decide +kernel)
theorem wc_X2_allWatered : (Cond.code yX2_allWatered cX2_allWatered 3 (Option.some FieldType.int)) ∈ UW := wU 216 (by decide +kernel) (by decide +kernel)
theorem wm_X2_148 : (Cond.methodLink "RoofWater$Village" 148 yX2_openValves) ∈ UW := wU 217 (by decide +kernel) (by decide +kernel)
theorem wi_X2_openValves : (Cond.instanceMethod yX2_openValves) ∈ UW := wU 219 (by decide +kernel) (by decide +kernel)
theorem wc_X2_openValves : (Cond.code yX2_openValves cX2_openValves 3 (Option.some FieldType.int)) ∈ UW := wU 220 (by decide +kernel) (by decide +kernel)
theorem wm_X4_153 : (Cond.methodLink "RoofWater" 153 yX4_mix) ∈ UW := wU 221 (by decide +kernel) (by decide +kernel)
theorem wt_X4_mix : (Cond.static yX4_mix) ∈ UW := wU 222 (by decide +kernel) (by decide +kernel)
theorem wc_X4_mix : (Cond.code yX4_mix cX4_mix 4 (Option.some FieldType.long)) ∈ UW := wU 223 (by decide +kernel) (by decide +kernel)
theorem wq_X4_167 : (Cond.constantLong "RoofWater" 167 (31 : Int64)) ∈ UW := wU 224 (by decide +kernel) (by decide +kernel)
theorem wm_X4_39 : (Cond.methodLink "RoofWater" 39 yX3_code) ∈ UW := wU 225 (by decide +kernel) (by decide +kernel)
theorem wi_X3_code : (Cond.instanceMethod yX3_code) ∈ UW := wU 226 (by decide +kernel) (by decide +kernel)
theorem ws_X3_code : (Cond.selects "RoofWater$Weather" yX3_code yX3_code) ∈ UW := wU 227 (by decide +kernel) (by decide +kernel)
theorem wc_X3_code : (Cond.code yX3_code cX3_code 2 (Option.some FieldType.int)) ∈ UW := wU 228 (by decide +kernel) (by decide +kernel)
theorem wm_X4_157 : (Cond.methodLink "RoofWater" 157 yX4_mixHouses) ∈ UW := wU 229 (by decide +kernel) (by decide +kernel)
theorem wi_X4_mixHouses : (Cond.instanceMethod yX4_mixHouses) ∈ UW := wU 231 (by decide +kernel) (by decide +kernel)
theorem wc_X4_mixHouses : (Cond.code yX4_mixHouses cX4_mixHouses 7 (Option.some FieldType.long)) ∈ UW := wU 232 (by decide +kernel) (by decide +kernel)
theorem wm_X4_115 : (Cond.methodLink "RoofWater" 115 yX0_fact) ∈ UW := wU 233 (by decide +kernel) (by decide +kernel)
theorem wi_X0_fact : (Cond.instanceMethod yX0_fact) ∈ UW := wU 234 (by decide +kernel) (by decide +kernel)
theorem ws_X0_fact : (Cond.selects "RoofWater$House" yX0_fact yX0_fact) ∈ UW := wU 235 (by decide +kernel) (by decide +kernel)
theorem wc_X0_fact : (Cond.code yX0_fact cX0_fact 2 (Option.some FieldType.int)) ∈ UW := wU 236 (by decide +kernel) (by decide +kernel)
theorem wm_X4_161 : (Cond.methodLink "RoofWater" 161 yX4_mixPipes) ∈ UW := wU 237 (by decide +kernel) (by decide +kernel)
theorem wi_X4_mixPipes : (Cond.instanceMethod yX4_mixPipes) ∈ UW := wU 239 (by decide +kernel) (by decide +kernel)
theorem wc_X4_mixPipes : (Cond.code yX4_mixPipes cX4_mixPipes 7 (Option.some FieldType.long)) ∈ UW := wU 240 (by decide +kernel) (by decide +kernel)
theorem wm_X4_118 : (Cond.methodLink "RoofWater" 118 yX1_fact) ∈ UW := wU 241 (by decide +kernel) (by decide +kernel)
theorem wi_X1_fact : (Cond.instanceMethod yX1_fact) ∈ UW := wU 242 (by decide +kernel) (by decide +kernel)
theorem ws_X1_fact : (Cond.selects "RoofWater$Pipe" yX1_fact yX1_fact) ∈ UW := wU 243 (by decide +kernel) (by decide +kernel)
theorem wc_X1_fact : (Cond.code yX1_fact cX1_fact 2 (Option.some FieldType.int)) ∈ UW := wU 244 (by decide +kernel) (by decide +kernel)
theorem wm_X4_164 : (Cond.methodLink "RoofWater" 164 yX4_mixDebts) ∈ UW := wU 245 (by decide +kernel) (by decide +kernel)
theorem wi_X4_mixDebts : (Cond.instanceMethod yX4_mixDebts) ∈ UW := wU 247 (by decide +kernel) (by decide +kernel)
theorem wc_X4_mixDebts : (Cond.code yX4_mixDebts cX4_mixDebts 7 (Option.some FieldType.long)) ∈ UW := wU 248 (by decide +kernel) (by decide +kernel)
theorem wm_X4_119 : (Cond.methodLink "RoofWater" 119 yX2_debt) ∈ UW := wU 249 (by decide +kernel) (by decide +kernel)
theorem wi_X2_debt : (Cond.instanceMethod yX2_debt) ∈ UW := wU 250 (by decide +kernel) (by decide +kernel)
theorem ws_X2_debt : (Cond.selects "RoofWater$Village" yX2_debt yX2_debt) ∈ UW := wU 251 (by decide +kernel) (by decide +kernel)
theorem wc_X2_debt : (Cond.code yX2_debt cX2_debt 5 (Option.some FieldType.int)) ∈ UW := wU 252 (by decide +kernel) (by decide +kernel)
theorem wm_X2_139 : (Cond.methodLink "RoofWater$Village" 139 yX1_debt) ∈ UW := wU 253 (by decide +kernel) (by decide +kernel)
theorem wi_X1_debt : (Cond.instanceMethod yX1_debt) ∈ UW := wU 254 (by decide +kernel) (by decide +kernel)
theorem ws_X1_debt : (Cond.selects "RoofWater$Pipe" yX1_debt yX1_debt) ∈ UW := wU 255 (by decide +kernel) (by decide +kernel)
theorem wc_X1_debt : (Cond.code yX1_debt cX1_debt 3 (Option.some FieldType.int)) ∈ UW := wU 256 (by decide +kernel) (by decide +kernel)
theorem wm_L_78 : (Cond.methodLink "RoofWaterLaw" 78 yL_setWeather) ∈ UW := wU 257 (by decide +kernel) (by decide +kernel)
theorem wt_L_setWeather : (Cond.static yL_setWeather) ∈ UW := wU 258 (by decide +kernel) (by decide +kernel)
theorem wc_L_setWeather : (Cond.codeWith yL_setWeather cL_setWeather 6 (Option.some FieldType.int) [(0, 12, 15, 13), (0, 12, 19, 15)]) ∈ UW := wU 259 (by decide +kernel) (by decide +kernel)
theorem wk_L_13 : (Cond.classLink "RoofWaterLaw" 13 "java/lang/IndexOutOfBoundsException") ∈ UW := wU 260 (by decide +kernel) (by decide +kernel)
theorem wk_L_15 : (Cond.classLink "RoofWaterLaw" 15 "java/lang/IllegalArgumentException") ∈ UW := wU 261 (by decide +kernel) (by decide +kernel)
theorem wm_L_7 : (Cond.methodLink "RoofWaterLaw" 7 yX4_setWeather) ∈ UW := wU 262 (by decide +kernel) (by decide +kernel)
theorem wi_X4_setWeather : (Cond.instanceMethod yX4_setWeather) ∈ UW := wU 263 (by decide +kernel) (by decide +kernel)
theorem ws_X4_setWeather : (Cond.selects "RoofWater" yX4_setWeather yX4_setWeather) ∈ UW := wU 264 (by decide +kernel) (by decide +kernel)
theorem wc_X4_setWeather : (Cond.code yX4_setWeather cX4_setWeather 5 (Option.some FieldType.int)) ∈ UW := wU 265 (by decide +kernel) (by decide +kernel)
theorem wm_X4_28 : (Cond.methodLink "RoofWater" 28 yX4_isWithin) ∈ UW := wU 266 (by decide +kernel) (by decide +kernel)
theorem wt_X4_isWithin : (Cond.static yX4_isWithin) ∈ UW := wU 267 (by decide +kernel) (by decide +kernel)
theorem wc_X4_isWithin : (Cond.code yX4_isWithin cX4_isWithin 3 (Option.some FieldType.boolean)) ∈ UW := wU 268 (by decide +kernel) (by decide +kernel)
theorem wm_X4_32 : (Cond.methodLink "RoofWater" 32 yX4_needIndex) ∈ UW := wU 269 (by decide +kernel) (by decide +kernel)
theorem wt_X4_needIndex : (Cond.static yX4_needIndex) ∈ UW := wU 270 (by decide +kernel) (by decide +kernel)
theorem wc_X4_needIndex : (Cond.code yX4_needIndex cX4_needIndex 1 (Option.none : Option FieldType)) ∈ UW := wU 271 (by decide +kernel) (by decide +kernel)
theorem wk_X4_169 : (Cond.classLink "RoofWater" 169 "java/lang/IndexOutOfBoundsException") ∈ UW := wU 272 (by decide +kernel) (by decide +kernel)
theorem wn_IndexOutOfBoundsException : (Cond.instantiable "java/lang/IndexOutOfBoundsException" 6) ∈ UW := wU 273 (by decide +kernel) (by decide +kernel)
theorem ws_java_lang_Throwable_fillInStackTrace : (Cond.selects "java/lang/IndexOutOfBoundsException" ({ cls := "java/lang/Throwable", name := "fillInStackTrace", desc := "(I)Ljava/lang/Throwable;" } : MethodName) ({ cls := "java/lang/Throwable", name := "fillInStackTrace", desc := "(I)Ljava/lang/Throwable;" } : MethodName)) ∈ UW := wU 281 (by decide +kernel) (by decide +kernel)
theorem ws_java_lang_Throwable_fillInStackTrace_b282 : (Cond.selects "java/lang/IndexOutOfBoundsException" ({ cls := "java/lang/Throwable", name := "fillInStackTrace", desc := "()Ljava/lang/Throwable;" } : MethodName) ({ cls := "java/lang/Throwable", name := "fillInStackTrace", desc := "()Ljava/lang/Throwable;" } : MethodName)) ∈ UW := wU 282 (by decide +kernel) (by decide +kernel)
theorem w9_283 : (Cond.lays "java/lang/IndexOutOfBoundsException" "java/lang/Throwable" "cause" "Ljava/lang/Throwable;") ∈ UW := wU 283 (by decide +kernel) (by decide +kernel)
theorem w9_284 : (Cond.lays "java/lang/Throwable" "java/lang/Throwable" "cause" "Ljava/lang/Throwable;") ∈ UW := wU 284 (by decide +kernel) (by decide +kernel)
theorem w9_285 : (Cond.lays "java/lang/IndexOutOfBoundsException" "java/lang/Throwable" "stackTrace" "[Ljava/lang/StackTraceElement;") ∈ UW := wU 285 (by decide +kernel) (by decide +kernel)
theorem w9_286 : (Cond.lays "java/lang/Throwable" "java/lang/Throwable" "stackTrace" "[Ljava/lang/StackTraceElement;") ∈ UW := wU 286 (by decide +kernel) (by decide +kernel)
theorem w9_287 : (Cond.lays "java/lang/IndexOutOfBoundsException" "java/lang/Throwable" "suppressedExceptions" "Ljava/util/List;") ∈ UW := wU 287 (by decide +kernel) (by decide +kernel)
theorem w9_288 : (Cond.lays "java/lang/Throwable" "java/lang/Throwable" "suppressedExceptions" "Ljava/util/List;") ∈ UW := wU 288 (by decide +kernel) (by decide +kernel)
theorem w9_289 : (Cond.lays "java/lang/IndexOutOfBoundsException" "java/lang/Throwable" "detailMessage" "Ljava/lang/String;") ∈ UW := wU 289 (by decide +kernel) (by decide +kernel)
theorem w9_290 : (Cond.lays "java/lang/Throwable" "java/lang/Throwable" "detailMessage" "Ljava/lang/String;") ∈ UW := wU 290 (by decide +kernel) (by decide +kernel)
theorem w9_291 : (Cond.lays "java/lang/IndexOutOfBoundsException" "java/lang/Throwable" "backtrace" "Ljava/lang/Object;") ∈ UW := wU 291 (by decide +kernel) (by decide +kernel)
theorem w9_292 : (Cond.lays "java/lang/Throwable" "java/lang/Throwable" "backtrace" "Ljava/lang/Object;") ∈ UW := wU 292 (by decide +kernel) (by decide +kernel)
theorem w9_293 : (Cond.fieldLink "java/lang/Throwable" 198 "java/lang/Throwable" "backtrace" "Ljava/lang/Object;") ∈ UW := wU 293 (by decide +kernel) (by decide +kernel)
theorem wi_Throwable__init_ : (Cond.instanceMethod ({ cls := "java/lang/Throwable", name := "<init>", desc := "()V" } : MethodName)) ∈ UW := wU 295 (by decide +kernel) (by decide +kernel)
theorem wc_Throwable__init_ : (Cond.code ({ cls := "java/lang/Throwable", name := "<init>", desc := "()V" } : MethodName) prog_17_method_1_code 1 (Option.none : Option FieldType)) ∈ UW := wU 296 (by decide +kernel) (by decide +kernel)
theorem w9_297 : (Cond.methodLink "java/lang/Throwable" 1 ({ cls := "java/lang/Object", name := "<init>", desc := "()V" } : MethodName)) ∈ UW := wU 297 (by decide +kernel) (by decide +kernel)
theorem w9_298 : (Cond.fieldLink "java/lang/Throwable" 13 "java/lang/Throwable" "UNASSIGNED_STACK" "[Ljava/lang/StackTraceElement;") ∈ UW := wU 298 (by decide +kernel) (by decide +kernel)
theorem w9_300 : (Cond.fieldLink "java/lang/Throwable" 20 "java/lang/Throwable" "SUPPRESSED_SENTINEL" "Ljava/util/List;") ∈ UW := wU 300 (by decide +kernel) (by decide +kernel)
theorem w9_302 : (Cond.methodLink "java/lang/Throwable" 27 ({ cls := "java/lang/Throwable", name := "fillInStackTrace", desc := "()Ljava/lang/Throwable;" } : MethodName)) ∈ UW := wU 302 (by decide +kernel) (by decide +kernel)
theorem wi_Throwable_fillInStackTrace : (Cond.instanceMethod ({ cls := "java/lang/Throwable", name := "fillInStackTrace", desc := "()Ljava/lang/Throwable;" } : MethodName)) ∈ UW := wU 303 (by decide +kernel) (by decide +kernel)
theorem w9_304 : (Cond.sameMethod "java/lang/Throwable" "java/lang/Throwable" "fillInStackTrace" "()Ljava/lang/Throwable;") ∈ UW := wU 304 (by decide +kernel) (by decide +kernel)
theorem ws_java_lang_Throwable_fillInStackTrace_b305 : (Cond.selects "java/lang/IllegalArgumentException" ({ cls := "java/lang/Throwable", name := "fillInStackTrace", desc := "()Ljava/lang/Throwable;" } : MethodName) ({ cls := "java/lang/Throwable", name := "fillInStackTrace", desc := "()Ljava/lang/Throwable;" } : MethodName)) ∈ UW := wU 305 (by decide +kernel) (by decide +kernel)
theorem ws_java_lang_Throwable_fillInStackTrace_b306 : (Cond.selects "java/lang/IllegalStateException" ({ cls := "java/lang/Throwable", name := "fillInStackTrace", desc := "()Ljava/lang/Throwable;" } : MethodName) ({ cls := "java/lang/Throwable", name := "fillInStackTrace", desc := "()Ljava/lang/Throwable;" } : MethodName)) ∈ UW := wU 306 (by decide +kernel) (by decide +kernel)
theorem w9_308 : (Cond.methodLink "java/lang/Throwable" 202 ({ cls := "java/lang/Throwable", name := "fillInStackTrace", desc := "(I)Ljava/lang/Throwable;" } : MethodName)) ∈ UW := wU 308 (by decide +kernel) (by decide +kernel)
theorem wi_Throwable_fillInStackTrace_b310 : (Cond.instanceMethod ({ cls := "java/lang/Throwable", name := "fillInStackTrace", desc := "(I)Ljava/lang/Throwable;" } : MethodName)) ∈ UW := wU 310 (by decide +kernel) (by decide +kernel)
theorem wn_Throwable : (Cond.instantiable "java/lang/Throwable" 6) ∈ UW := wU 311 (by decide +kernel) (by decide +kernel)
theorem wv_Throwable_fillInStackTrace : (Cond.native ({ cls := "java/lang/Throwable", name := "fillInStackTrace", desc := "(I)Ljava/lang/Throwable;" } : MethodName)) ∈ UW := wU 312 (by decide +kernel) (by decide +kernel)
theorem wm_X4_173 : (Cond.methodLink "RoofWater" 173 ({ cls := "java/lang/IndexOutOfBoundsException", name := "<init>", desc := "(Ljava/lang/String;)V" } : MethodName)) ∈ UW := wU 314 (by decide +kernel) (by decide +kernel)
theorem wi_IndexOutOfBoundsException__init_ : (Cond.instanceMethod ({ cls := "java/lang/IndexOutOfBoundsException", name := "<init>", desc := "(Ljava/lang/String;)V" } : MethodName)) ∈ UW := wU 315 (by decide +kernel) (by decide +kernel)
theorem wc_IndexOutOfBoundsException__init_ : (Cond.code ({ cls := "java/lang/IndexOutOfBoundsException", name := "<init>", desc := "(Ljava/lang/String;)V" } : MethodName) prog_12_method_2_code 2 (Option.none : Option FieldType)) ∈ UW := wU 316 (by decide +kernel) (by decide +kernel)
theorem w9_317 : (Cond.methodLink "java/lang/IndexOutOfBoundsException" 7 ({ cls := "java/lang/RuntimeException", name := "<init>", desc := "(Ljava/lang/String;)V" } : MethodName)) ∈ UW := wU 317 (by decide +kernel) (by decide +kernel)
theorem wi_RuntimeException__init_ : (Cond.instanceMethod ({ cls := "java/lang/RuntimeException", name := "<init>", desc := "(Ljava/lang/String;)V" } : MethodName)) ∈ UW := wU 318 (by decide +kernel) (by decide +kernel)
theorem wc_RuntimeException__init_ : (Cond.code ({ cls := "java/lang/RuntimeException", name := "<init>", desc := "(Ljava/lang/String;)V" } : MethodName) prog_14_method_2_code 2 (Option.none : Option FieldType)) ∈ UW := wU 319 (by decide +kernel) (by decide +kernel)
theorem w9_320 : (Cond.methodLink "java/lang/RuntimeException" 7 ({ cls := "java/lang/Exception", name := "<init>", desc := "(Ljava/lang/String;)V" } : MethodName)) ∈ UW := wU 320 (by decide +kernel) (by decide +kernel)
theorem wi_Exception__init_ : (Cond.instanceMethod ({ cls := "java/lang/Exception", name := "<init>", desc := "(Ljava/lang/String;)V" } : MethodName)) ∈ UW := wU 321 (by decide +kernel) (by decide +kernel)
theorem wc_Exception__init_ : (Cond.code ({ cls := "java/lang/Exception", name := "<init>", desc := "(Ljava/lang/String;)V" } : MethodName) prog_9_method_2_code 2 (Option.none : Option FieldType)) ∈ UW := wU 322 (by decide +kernel) (by decide +kernel)
theorem w9_323 : (Cond.methodLink "java/lang/Exception" 7 ({ cls := "java/lang/Throwable", name := "<init>", desc := "(Ljava/lang/String;)V" } : MethodName)) ∈ UW := wU 323 (by decide +kernel) (by decide +kernel)
theorem wi_Throwable__init__b324 : (Cond.instanceMethod ({ cls := "java/lang/Throwable", name := "<init>", desc := "(Ljava/lang/String;)V" } : MethodName)) ∈ UW := wU 324 (by decide +kernel) (by decide +kernel)
theorem wc_Throwable__init__b325 : (Cond.code ({ cls := "java/lang/Throwable", name := "<init>", desc := "(Ljava/lang/String;)V" } : MethodName) prog_17_method_2_code 2 (Option.none : Option FieldType)) ∈ UW := wU 325 (by decide +kernel) (by decide +kernel)
theorem w9_326 : (Cond.fieldLink "java/lang/Throwable" 198 "java/lang/Throwable" "backtrace" "Ljava/lang/Object;") ∈ UW := wU 326 (by decide +kernel) (by decide +kernel)
theorem w9_327 : (Cond.fieldLink "java/lang/Throwable" 31 "java/lang/Throwable" "detailMessage" "Ljava/lang/String;") ∈ UW := wU 327 (by decide +kernel) (by decide +kernel)
theorem w9_328 : (Cond.fieldLink "java/lang/Throwable" 7 "java/lang/Throwable" "cause" "Ljava/lang/Throwable;") ∈ UW := wU 328 (by decide +kernel) (by decide +kernel)
theorem w9_329 : (Cond.fieldLink "java/lang/Throwable" 17 "java/lang/Throwable" "stackTrace" "[Ljava/lang/StackTraceElement;") ∈ UW := wU 329 (by decide +kernel) (by decide +kernel)
theorem w9_330 : (Cond.fieldLink "java/lang/Throwable" 24 "java/lang/Throwable" "suppressedExceptions" "Ljava/util/List;") ∈ UW := wU 330 (by decide +kernel) (by decide +kernel)
theorem w9_335 : (Cond.lays "java/lang/IndexOutOfBoundsException" "java/lang/Throwable" "depth" "I") ∈ UW := wU 335 (by decide +kernel) (by decide +kernel)
theorem wa_byte : (Cond.arrayClass FieldType.byte) ∈ UW := wU 339 (by decide +kernel) (by decide +kernel)
theorem wm_X4_36 : (Cond.methodLink "RoofWater" 36 yX4_needArgument) ∈ UW := wU 340 (by decide +kernel) (by decide +kernel)
theorem wt_X4_needArgument : (Cond.static yX4_needArgument) ∈ UW := wU 341 (by decide +kernel) (by decide +kernel)
theorem wc_X4_needArgument : (Cond.code yX4_needArgument cX4_needArgument 1 (Option.none : Option FieldType)) ∈ UW := wU 342 (by decide +kernel) (by decide +kernel)
theorem wk_X4_183 : (Cond.classLink "RoofWater" 183 "java/lang/IllegalArgumentException") ∈ UW := wU 343 (by decide +kernel) (by decide +kernel)
theorem wn_IllegalArgumentException : (Cond.instantiable "java/lang/IllegalArgumentException" 6) ∈ UW := wU 344 (by decide +kernel) (by decide +kernel)
theorem ws_java_lang_Throwable_fillInStackTrace_b346 : (Cond.selects "java/lang/IllegalArgumentException" ({ cls := "java/lang/Throwable", name := "fillInStackTrace", desc := "(I)Ljava/lang/Throwable;" } : MethodName) ({ cls := "java/lang/Throwable", name := "fillInStackTrace", desc := "(I)Ljava/lang/Throwable;" } : MethodName)) ∈ UW := wU 346 (by decide +kernel) (by decide +kernel)
theorem w9_347 : (Cond.lays "java/lang/IllegalArgumentException" "java/lang/Throwable" "cause" "Ljava/lang/Throwable;") ∈ UW := wU 347 (by decide +kernel) (by decide +kernel)
theorem w9_348 : (Cond.lays "java/lang/IllegalArgumentException" "java/lang/Throwable" "stackTrace" "[Ljava/lang/StackTraceElement;") ∈ UW := wU 348 (by decide +kernel) (by decide +kernel)
theorem w9_349 : (Cond.lays "java/lang/IllegalArgumentException" "java/lang/Throwable" "suppressedExceptions" "Ljava/util/List;") ∈ UW := wU 349 (by decide +kernel) (by decide +kernel)
theorem w9_350 : (Cond.lays "java/lang/IllegalArgumentException" "java/lang/Throwable" "detailMessage" "Ljava/lang/String;") ∈ UW := wU 350 (by decide +kernel) (by decide +kernel)
theorem w9_351 : (Cond.lays "java/lang/IllegalArgumentException" "java/lang/Throwable" "backtrace" "Ljava/lang/Object;") ∈ UW := wU 351 (by decide +kernel) (by decide +kernel)
theorem wm_X4_187 : (Cond.methodLink "RoofWater" 187 ({ cls := "java/lang/IllegalArgumentException", name := "<init>", desc := "(Ljava/lang/String;)V" } : MethodName)) ∈ UW := wU 353 (by decide +kernel) (by decide +kernel)
theorem wi_IllegalArgumentException__init_ : (Cond.instanceMethod ({ cls := "java/lang/IllegalArgumentException", name := "<init>", desc := "(Ljava/lang/String;)V" } : MethodName)) ∈ UW := wU 354 (by decide +kernel) (by decide +kernel)
theorem wc_IllegalArgumentException__init_ : (Cond.code ({ cls := "java/lang/IllegalArgumentException", name := "<init>", desc := "(Ljava/lang/String;)V" } : MethodName) prog_10_method_2_code 2 (Option.none : Option FieldType)) ∈ UW := wU 355 (by decide +kernel) (by decide +kernel)
theorem w9_356 : (Cond.methodLink "java/lang/IllegalArgumentException" 7 ({ cls := "java/lang/RuntimeException", name := "<init>", desc := "(Ljava/lang/String;)V" } : MethodName)) ∈ UW := wU 356 (by decide +kernel) (by decide +kernel)
theorem w9_357 : (Cond.lays "java/lang/IllegalArgumentException" "java/lang/Throwable" "depth" "I") ∈ UW := wU 357 (by decide +kernel) (by decide +kernel)
theorem wm_X4_43 : (Cond.methodLink "RoofWater" 43 yX3_change) ∈ UW := wU 359 (by decide +kernel) (by decide +kernel)
theorem wi_X3_change : (Cond.instanceMethod yX3_change) ∈ UW := wU 360 (by decide +kernel) (by decide +kernel)
theorem ws_X3_change : (Cond.selects "RoofWater$Weather" yX3_change yX3_change) ∈ UW := wU 361 (by decide +kernel) (by decide +kernel)
theorem wc_X3_change : (Cond.code yX3_change cX3_change 4 (Option.none : Option FieldType)) ∈ UW := wU 362 (by decide +kernel) (by decide +kernel)
theorem wm_L_88 : (Cond.methodLink "RoofWaterLaw" 88 yL_build) ∈ UW := wU 363 (by decide +kernel) (by decide +kernel)
theorem wt_L_build : (Cond.static yL_build) ∈ UW := wU 364 (by decide +kernel) (by decide +kernel)
theorem wc_L_build : (Cond.codeWith yL_build cL_build 7 (Option.some FieldType.int) [(0, 14, 17, 15), (0, 14, 21, 21)]) ∈ UW := wU 365 (by decide +kernel) (by decide +kernel)
theorem wk_L_21 : (Cond.classLink "RoofWaterLaw" 21 "java/lang/IllegalStateException") ∈ UW := wU 366 (by decide +kernel) (by decide +kernel)
theorem wm_L_17 : (Cond.methodLink "RoofWaterLaw" 17 yX4_build) ∈ UW := wU 367 (by decide +kernel) (by decide +kernel)
theorem wi_X4_build : (Cond.instanceMethod yX4_build) ∈ UW := wU 368 (by decide +kernel) (by decide +kernel)
theorem ws_X4_build : (Cond.selects "RoofWater" yX4_build yX4_build) ∈ UW := wU 369 (by decide +kernel) (by decide +kernel)
theorem wc_X4_build : (Cond.code yX4_build cX4_build 5 (Option.some FieldType.int)) ∈ UW := wU 370 (by decide +kernel) (by decide +kernel)
theorem wm_X4_51 : (Cond.methodLink "RoofWater" 51 yX4_needState) ∈ UW := wU 371 (by decide +kernel) (by decide +kernel)
theorem wt_X4_needState : (Cond.static yX4_needState) ∈ UW := wU 372 (by decide +kernel) (by decide +kernel)
theorem wc_X4_needState : (Cond.code yX4_needState cX4_needState 1 (Option.none : Option FieldType)) ∈ UW := wU 373 (by decide +kernel) (by decide +kernel)
theorem wk_X4_188 : (Cond.classLink "RoofWater" 188 "java/lang/IllegalStateException") ∈ UW := wU 374 (by decide +kernel) (by decide +kernel)
theorem wn_IllegalStateException : (Cond.instantiable "java/lang/IllegalStateException" 6) ∈ UW := wU 375 (by decide +kernel) (by decide +kernel)
theorem ws_java_lang_Throwable_fillInStackTrace_b377 : (Cond.selects "java/lang/IllegalStateException" ({ cls := "java/lang/Throwable", name := "fillInStackTrace", desc := "(I)Ljava/lang/Throwable;" } : MethodName) ({ cls := "java/lang/Throwable", name := "fillInStackTrace", desc := "(I)Ljava/lang/Throwable;" } : MethodName)) ∈ UW := wU 377 (by decide +kernel) (by decide +kernel)
theorem w9_378 : (Cond.lays "java/lang/IllegalStateException" "java/lang/Throwable" "cause" "Ljava/lang/Throwable;") ∈ UW := wU 378 (by decide +kernel) (by decide +kernel)
theorem w9_379 : (Cond.lays "java/lang/IllegalStateException" "java/lang/Throwable" "stackTrace" "[Ljava/lang/StackTraceElement;") ∈ UW := wU 379 (by decide +kernel) (by decide +kernel)
theorem w9_380 : (Cond.lays "java/lang/IllegalStateException" "java/lang/Throwable" "suppressedExceptions" "Ljava/util/List;") ∈ UW := wU 380 (by decide +kernel) (by decide +kernel)
theorem w9_381 : (Cond.lays "java/lang/IllegalStateException" "java/lang/Throwable" "detailMessage" "Ljava/lang/String;") ∈ UW := wU 381 (by decide +kernel) (by decide +kernel)
theorem w9_382 : (Cond.lays "java/lang/IllegalStateException" "java/lang/Throwable" "backtrace" "Ljava/lang/Object;") ∈ UW := wU 382 (by decide +kernel) (by decide +kernel)
theorem wm_X4_192 : (Cond.methodLink "RoofWater" 192 ({ cls := "java/lang/IllegalStateException", name := "<init>", desc := "(Ljava/lang/String;)V" } : MethodName)) ∈ UW := wU 384 (by decide +kernel) (by decide +kernel)
theorem wi_IllegalStateException__init_ : (Cond.instanceMethod ({ cls := "java/lang/IllegalStateException", name := "<init>", desc := "(Ljava/lang/String;)V" } : MethodName)) ∈ UW := wU 385 (by decide +kernel) (by decide +kernel)
theorem wc_IllegalStateException__init_ : (Cond.code ({ cls := "java/lang/IllegalStateException", name := "<init>", desc := "(Ljava/lang/String;)V" } : MethodName) prog_11_method_2_code 2 (Option.none : Option FieldType)) ∈ UW := wU 386 (by decide +kernel) (by decide +kernel)
theorem w9_387 : (Cond.methodLink "java/lang/IllegalStateException" 7 ({ cls := "java/lang/RuntimeException", name := "<init>", desc := "(Ljava/lang/String;)V" } : MethodName)) ∈ UW := wU 387 (by decide +kernel) (by decide +kernel)
theorem w9_388 : (Cond.lays "java/lang/IllegalStateException" "java/lang/Throwable" "depth" "I") ∈ UW := wU 388 (by decide +kernel) (by decide +kernel)
theorem wm_X4_54 : (Cond.methodLink "RoofWater" 54 yX2_addHouse) ∈ UW := wU 390 (by decide +kernel) (by decide +kernel)
theorem wi_X2_addHouse : (Cond.instanceMethod yX2_addHouse) ∈ UW := wU 391 (by decide +kernel) (by decide +kernel)
theorem ws_X2_addHouse : (Cond.selects "RoofWater$Village" yX2_addHouse yX2_addHouse) ∈ UW := wU 392 (by decide +kernel) (by decide +kernel)
theorem wc_X2_addHouse : (Cond.code yX2_addHouse cX2_addHouse 6 (Option.some FieldType.int)) ∈ UW := wU 393 (by decide +kernel) (by decide +kernel)
theorem wm_L_92 : (Cond.methodLink "RoofWaterLaw" 92 yL_chain) ∈ UW := wU 394 (by decide +kernel) (by decide +kernel)
theorem wt_L_chain : (Cond.static yL_chain) ∈ UW := wU 395 (by decide +kernel) (by decide +kernel)
theorem wc_L_chain : (Cond.codeWith yL_chain cL_chain 5 (Option.some FieldType.int) [(0, 10, 13, 13), (0, 10, 17, 15), (0, 10, 21, 21)]) ∈ UW := wU 396 (by decide +kernel) (by decide +kernel)
theorem wm_L_23 : (Cond.methodLink "RoofWaterLaw" 23 yX4_chain) ∈ UW := wU 397 (by decide +kernel) (by decide +kernel)
theorem wi_X4_chain : (Cond.instanceMethod yX4_chain) ∈ UW := wU 398 (by decide +kernel) (by decide +kernel)
theorem ws_X4_chain : (Cond.selects "RoofWater" yX4_chain yX4_chain) ∈ UW := wU 399 (by decide +kernel) (by decide +kernel)
theorem wc_X4_chain : (Cond.code yX4_chain cX4_chain 3 (Option.some FieldType.int)) ∈ UW := wU 400 (by decide +kernel) (by decide +kernel)
theorem wm_X4_58 : (Cond.methodLink "RoofWater" 58 yX4_needHouse) ∈ UW := wU 401 (by decide +kernel) (by decide +kernel)
theorem wi_X4_needHouse : (Cond.instanceMethod yX4_needHouse) ∈ UW := wU 403 (by decide +kernel) (by decide +kernel)
theorem wc_X4_needHouse : (Cond.code yX4_needHouse cX4_needHouse 2 (Option.none : Option FieldType)) ∈ UW := wU 404 (by decide +kernel) (by decide +kernel)
theorem wm_X4_62 : (Cond.methodLink "RoofWater" 62 yX2_hasHouse) ∈ UW := wU 405 (by decide +kernel) (by decide +kernel)
theorem wi_X2_hasHouse : (Cond.instanceMethod yX2_hasHouse) ∈ UW := wU 406 (by decide +kernel) (by decide +kernel)
theorem ws_X2_hasHouse : (Cond.selects "RoofWater$Village" yX2_hasHouse yX2_hasHouse) ∈ UW := wU 407 (by decide +kernel) (by decide +kernel)
theorem wc_X2_hasHouse : (Cond.code yX2_hasHouse cX2_hasHouse 2 (Option.some FieldType.boolean)) ∈ UW := wU 408 (by decide +kernel) (by decide +kernel)
theorem wm_X4_66 : (Cond.methodLink "RoofWater" 66 yX2_flowsThrough) ∈ UW := wU 410 (by decide +kernel) (by decide +kernel)
theorem wi_X2_flowsThrough : (Cond.instanceMethod yX2_flowsThrough) ∈ UW := wU 411 (by decide +kernel) (by decide +kernel)
theorem ws_X2_flowsThrough : (Cond.selects "RoofWater$Village" yX2_flowsThrough yX2_flowsThrough) ∈ UW := wU 412 (by decide +kernel) (by decide +kernel)
theorem wc_X2_flowsThrough : (Cond.code yX2_flowsThrough cX2_flowsThrough 5 (Option.some FieldType.boolean)) ∈ UW := wU 413 (by decide +kernel) (by decide +kernel)
theorem wm_X2_83 : (Cond.methodLink "RoofWater$Village" 83 yX2_hasHouse) ∈ UW := wU 414 (by decide +kernel) (by decide +kernel)
theorem wm_X4_79 : (Cond.methodLink "RoofWater" 79 yX2_chainLength) ∈ UW := wU 415 (by decide +kernel) (by decide +kernel)
theorem wi_X2_chainLength : (Cond.instanceMethod yX2_chainLength) ∈ UW := wU 416 (by decide +kernel) (by decide +kernel)
theorem ws_X2_chainLength : (Cond.selects "RoofWater$Village" yX2_chainLength yX2_chainLength) ∈ UW := wU 417 (by decide +kernel) (by decide +kernel)
theorem wc_X2_chainLength : (Cond.code yX2_chainLength cX2_chainLength 4 (Option.some FieldType.int)) ∈ UW := wU 418 (by decide +kernel) (by decide +kernel)
theorem wm_L_96 : (Cond.methodLink "RoofWaterLaw" 96 yL_lay) ∈ UW := wU 419 (by decide +kernel) (by decide +kernel)
theorem wt_L_lay : (Cond.static yL_lay) ∈ UW := wU 420 (by decide +kernel) (by decide +kernel)
theorem wc_L_lay : (Cond.codeWith yL_lay cL_lay 6 (Option.some FieldType.int) [(0, 12, 15, 13), (0, 12, 19, 15), (0, 12, 23, 21)]) ∈ UW := wU 421 (by decide +kernel) (by decide +kernel)
theorem wm_L_27 : (Cond.methodLink "RoofWaterLaw" 27 yX4_lay) ∈ UW := wU 422 (by decide +kernel) (by decide +kernel)
theorem wi_X4_lay : (Cond.instanceMethod yX4_lay) ∈ UW := wU 423 (by decide +kernel) (by decide +kernel)
theorem ws_X4_lay : (Cond.selects "RoofWater" yX4_lay yX4_lay) ∈ UW := wU 424 (by decide +kernel) (by decide +kernel)
theorem wc_X4_lay : (Cond.code yX4_lay cX4_lay 4 (Option.some FieldType.int)) ∈ UW := wU 425 (by decide +kernel) (by decide +kernel)
theorem wm_X4_85 : (Cond.methodLink "RoofWater" 85 yX2_addPipe) ∈ UW := wU 426 (by decide +kernel) (by decide +kernel)
theorem wi_X2_addPipe : (Cond.instanceMethod yX2_addPipe) ∈ UW := wU 427 (by decide +kernel) (by decide +kernel)
theorem ws_X2_addPipe : (Cond.selects "RoofWater$Village" yX2_addPipe yX2_addPipe) ∈ UW := wU 428 (by decide +kernel) (by decide +kernel)
theorem wc_X2_addPipe : (Cond.code yX2_addPipe cX2_addPipe 5 (Option.some FieldType.int)) ∈ UW := wU 429 (by decide +kernel) (by decide +kernel)
theorem wm_L_99 : (Cond.methodLink "RoofWaterLaw" 99 yL_turn) ∈ UW := wU 430 (by decide +kernel) (by decide +kernel)
theorem wt_L_turn : (Cond.static yL_turn) ∈ UW := wU 431 (by decide +kernel) (by decide +kernel)
theorem wc_L_turn : (Cond.codeWith yL_turn cL_turn 5 (Option.some FieldType.int) [(0, 17, 20, 13)]) ∈ UW := wU 432 (by decide +kernel) (by decide +kernel)
theorem wm_L_30 : (Cond.methodLink "RoofWaterLaw" 30 yX4_turn) ∈ UW := wU 433 (by decide +kernel) (by decide +kernel)
theorem wi_X4_turn : (Cond.instanceMethod yX4_turn) ∈ UW := wU 434 (by decide +kernel) (by decide +kernel)
theorem ws_X4_turn : (Cond.selects "RoofWater" yX4_turn yX4_turn) ∈ UW := wU 435 (by decide +kernel) (by decide +kernel)
theorem wc_X4_turn : (Cond.code yX4_turn cX4_turn 4 (Option.some FieldType.boolean)) ∈ UW := wU 436 (by decide +kernel) (by decide +kernel)
theorem wm_X4_89 : (Cond.methodLink "RoofWater" 89 yX4_needPipe) ∈ UW := wU 437 (by decide +kernel) (by decide +kernel)
theorem wi_X4_needPipe : (Cond.instanceMethod yX4_needPipe) ∈ UW := wU 439 (by decide +kernel) (by decide +kernel)
theorem wc_X4_needPipe : (Cond.code yX4_needPipe cX4_needPipe 2 (Option.none : Option FieldType)) ∈ UW := wU 440 (by decide +kernel) (by decide +kernel)
theorem wm_X4_176 : (Cond.methodLink "RoofWater" 176 yX2_hasPipe) ∈ UW := wU 441 (by decide +kernel) (by decide +kernel)
theorem wi_X2_hasPipe : (Cond.instanceMethod yX2_hasPipe) ∈ UW := wU 442 (by decide +kernel) (by decide +kernel)
theorem ws_X2_hasPipe : (Cond.selects "RoofWater$Village" yX2_hasPipe yX2_hasPipe) ∈ UW := wU 443 (by decide +kernel) (by decide +kernel)
theorem wc_X2_hasPipe : (Cond.code yX2_hasPipe cX2_hasPipe 2 (Option.some FieldType.boolean)) ∈ UW := wU 444 (by decide +kernel) (by decide +kernel)
theorem wm_L_103 : (Cond.methodLink "RoofWaterLaw" 103 yL_clean) ∈ UW := wU 446 (by decide +kernel) (by decide +kernel)
theorem wt_L_clean : (Cond.static yL_clean) ∈ UW := wU 447 (by decide +kernel) (by decide +kernel)
theorem wc_L_clean : (Cond.codeWith yL_clean cL_clean 4 (Option.some FieldType.int) [(0, 9, 12, 13)]) ∈ UW := wU 448 (by decide +kernel) (by decide +kernel)
theorem wm_L_34 : (Cond.methodLink "RoofWaterLaw" 34 yX4_clean) ∈ UW := wU 449 (by decide +kernel) (by decide +kernel)
theorem wi_X4_clean : (Cond.instanceMethod yX4_clean) ∈ UW := wU 450 (by decide +kernel) (by decide +kernel)
theorem ws_X4_clean : (Cond.selects "RoofWater" yX4_clean yX4_clean) ∈ UW := wU 451 (by decide +kernel) (by decide +kernel)
theorem wc_X4_clean : (Cond.code yX4_clean cX4_clean 3 (Option.some FieldType.int)) ∈ UW := wU 452 (by decide +kernel) (by decide +kernel)
theorem wm_L_107 : (Cond.methodLink "RoofWaterLaw" 107 yL_cart) ∈ UW := wU 453 (by decide +kernel) (by decide +kernel)
theorem wt_L_cart : (Cond.static yL_cart) ∈ UW := wU 454 (by decide +kernel) (by decide +kernel)
theorem wc_L_cart : (Cond.codeWith yL_cart cL_cart 5 (Option.some FieldType.int) [(0, 10, 13, 13), (0, 10, 17, 15)]) ∈ UW := wU 455 (by decide +kernel) (by decide +kernel)
theorem wm_L_38 : (Cond.methodLink "RoofWaterLaw" 38 yX4_cart) ∈ UW := wU 456 (by decide +kernel) (by decide +kernel)
theorem wi_X4_cart : (Cond.instanceMethod yX4_cart) ∈ UW := wU 457 (by decide +kernel) (by decide +kernel)
theorem ws_X4_cart : (Cond.selects "RoofWater" yX4_cart yX4_cart) ∈ UW := wU 458 (by decide +kernel) (by decide +kernel)
theorem wc_X4_cart : (Cond.code yX4_cart cX4_cart 3 (Option.some FieldType.int)) ∈ UW := wU 459 (by decide +kernel) (by decide +kernel)
theorem wm_X4_108 : (Cond.methodLink "RoofWater" 108 yX2_pour) ∈ UW := wU 460 (by decide +kernel) (by decide +kernel)
theorem wi_X2_pour : (Cond.instanceMethod yX2_pour) ∈ UW := wU 461 (by decide +kernel) (by decide +kernel)
theorem ws_X2_pour : (Cond.selects "RoofWater$Village" yX2_pour yX2_pour) ∈ UW := wU 462 (by decide +kernel) (by decide +kernel)
theorem wc_X2_pour : (Cond.code yX2_pour cX2_pour 6 (Option.some FieldType.int)) ∈ UW := wU 463 (by decide +kernel) (by decide +kernel)
theorem wm_X2_90 : (Cond.methodLink "RoofWater$Village" 90 yX0_takeIn) ∈ UW := wU 464 (by decide +kernel) (by decide +kernel)
theorem wi_X0_takeIn : (Cond.instanceMethod yX0_takeIn) ∈ UW := wU 465 (by decide +kernel) (by decide +kernel)
theorem ws_X0_takeIn : (Cond.selects "RoofWater$House" yX0_takeIn yX0_takeIn) ∈ UW := wU 466 (by decide +kernel) (by decide +kernel)
theorem wc_X0_takeIn : (Cond.code yX0_takeIn cX0_takeIn 3 (Option.some FieldType.int)) ∈ UW := wU 467 (by decide +kernel) (by decide +kernel)
theorem wm_X0_42 : (Cond.methodLink "RoofWater$House" 42 yJ9_min_7cf53) ∈ UW := wU 468 (by decide +kernel) (by decide +kernel)
theorem wm_L_110 : (Cond.methodLink "RoofWaterLaw" 110 yL_setPeople) ∈ UW := wU 469 (by decide +kernel) (by decide +kernel)
theorem wt_L_setPeople : (Cond.static yL_setPeople) ∈ UW := wU 470 (by decide +kernel) (by decide +kernel)
theorem wc_L_setPeople : (Cond.codeWith yL_setPeople cL_setPeople 5 (Option.some FieldType.int) [(0, 10, 13, 13), (0, 10, 17, 15)]) ∈ UW := wU 471 (by decide +kernel) (by decide +kernel)
theorem wm_L_41 : (Cond.methodLink "RoofWaterLaw" 41 yX4_setPeople) ∈ UW := wU 472 (by decide +kernel) (by decide +kernel)
theorem wi_X4_setPeople : (Cond.instanceMethod yX4_setPeople) ∈ UW := wU 473 (by decide +kernel) (by decide +kernel)
theorem ws_X4_setPeople : (Cond.selects "RoofWater" yX4_setPeople yX4_setPeople) ∈ UW := wU 474 (by decide +kernel) (by decide +kernel)
theorem wc_X4_setPeople : (Cond.code yX4_setPeople cX4_setPeople 4 (Option.some FieldType.int)) ∈ UW := wU 475 (by decide +kernel) (by decide +kernel)
theorem wm_L_113 : (Cond.methodLink "RoofWaterLaw" 113 yL_house) ∈ UW := wU 476 (by decide +kernel) (by decide +kernel)
theorem wt_L_house : (Cond.static yL_house) ∈ UW := wU 477 (by decide +kernel) (by decide +kernel)
theorem wc_L_house : (Cond.codeWith yL_house cL_house 5 (Option.some FieldType.int) [(0, 10, 13, 13)]) ∈ UW := wU 478 (by decide +kernel) (by decide +kernel)
theorem wm_L_44 : (Cond.methodLink "RoofWaterLaw" 44 yX4_house) ∈ UW := wU 479 (by decide +kernel) (by decide +kernel)
theorem wi_X4_house : (Cond.instanceMethod yX4_house) ∈ UW := wU 480 (by decide +kernel) (by decide +kernel)
theorem ws_X4_house : (Cond.selects "RoofWater" yX4_house yX4_house) ∈ UW := wU 481 (by decide +kernel) (by decide +kernel)
theorem wc_X4_house : (Cond.code yX4_house cX4_house 3 (Option.some FieldType.int)) ∈ UW := wU 482 (by decide +kernel) (by decide +kernel)
theorem wm_L_116 : (Cond.methodLink "RoofWaterLaw" 116 yL_pipe) ∈ UW := wU 483 (by decide +kernel) (by decide +kernel)
theorem wt_L_pipe : (Cond.static yL_pipe) ∈ UW := wU 484 (by decide +kernel) (by decide +kernel)
theorem wc_L_pipe : (Cond.codeWith yL_pipe cL_pipe 5 (Option.some FieldType.int) [(0, 10, 13, 13)]) ∈ UW := wU 485 (by decide +kernel) (by decide +kernel)
theorem wm_L_47 : (Cond.methodLink "RoofWaterLaw" 47 yX4_pipe) ∈ UW := wU 486 (by decide +kernel) (by decide +kernel)
theorem wi_X4_pipe : (Cond.instanceMethod yX4_pipe) ∈ UW := wU 487 (by decide +kernel) (by decide +kernel)
theorem ws_X4_pipe : (Cond.selects "RoofWater" yX4_pipe yX4_pipe) ∈ UW := wU 488 (by decide +kernel) (by decide +kernel)
theorem wc_X4_pipe : (Cond.code yX4_pipe cX4_pipe 3 (Option.some FieldType.int)) ∈ UW := wU 489 (by decide +kernel) (by decide +kernel)
theorem wm_L_119 : (Cond.methodLink "RoofWaterLaw" 119 yL_owes) ∈ UW := wU 490 (by decide +kernel) (by decide +kernel)
theorem wt_L_owes : (Cond.static yL_owes) ∈ UW := wU 491 (by decide +kernel) (by decide +kernel)
theorem wc_L_owes : (Cond.codeWith yL_owes cL_owes 5 (Option.some FieldType.int) [(0, 10, 13, 13)]) ∈ UW := wU 492 (by decide +kernel) (by decide +kernel)
theorem wm_L_50 : (Cond.methodLink "RoofWaterLaw" 50 yX4_owes) ∈ UW := wU 493 (by decide +kernel) (by decide +kernel)
theorem wi_X4_owes : (Cond.instanceMethod yX4_owes) ∈ UW := wU 494 (by decide +kernel) (by decide +kernel)
theorem ws_X4_owes : (Cond.selects "RoofWater" yX4_owes yX4_owes) ∈ UW := wU 495 (by decide +kernel) (by decide +kernel)
theorem wc_X4_owes : (Cond.code yX4_owes cX4_owes 3 (Option.some FieldType.int)) ∈ UW := wU 496 (by decide +kernel) (by decide +kernel)
theorem wm_L_122 : (Cond.methodLink "RoofWaterLaw" 122 yL_pass) ∈ UW := wU 497 (by decide +kernel) (by decide +kernel)
theorem wt_L_pass : (Cond.static yL_pass) ∈ UW := wU 498 (by decide +kernel) (by decide +kernel)
theorem wc_L_pass : (Cond.codeWith yL_pass cL_pass 4 (Option.some FieldType.int) [(0, 9, 12, 15)]) ∈ UW := wU 499 (by decide +kernel) (by decide +kernel)
theorem wm_L_53 : (Cond.methodLink "RoofWaterLaw" 53 yX4_pass) ∈ UW := wU 500 (by decide +kernel) (by decide +kernel)
theorem wi_X4_pass : (Cond.instanceMethod yX4_pass) ∈ UW := wU 501 (by decide +kernel) (by decide +kernel)
theorem ws_X4_pass : (Cond.selects "RoofWater" yX4_pass yX4_pass) ∈ UW := wU 502 (by decide +kernel) (by decide +kernel)
theorem wc_X4_pass : (Cond.code yX4_pass cX4_pass 2 (Option.some FieldType.int)) ∈ UW := wU 503 (by decide +kernel) (by decide +kernel)
theorem wm_X4_122 : (Cond.methodLink "RoofWater" 122 yX2_live) ∈ UW := wU 504 (by decide +kernel) (by decide +kernel)
theorem wi_X2_live : (Cond.instanceMethod yX2_live) ∈ UW := wU 505 (by decide +kernel) (by decide +kernel)
theorem ws_X2_live : (Cond.selects "RoofWater$Village" yX2_live yX2_live) ∈ UW := wU 506 (by decide +kernel) (by decide +kernel)
theorem wc_X2_live : (Cond.code yX2_live cX2_live 4 (Option.some FieldType.int)) ∈ UW := wU 507 (by decide +kernel) (by decide +kernel)
theorem wm_X2_98 : (Cond.methodLink "RoofWater$Village" 98 yX2_liveDay) ∈ UW := wU 508 (by decide +kernel) (by decide +kernel)
theorem wi_X2_liveDay : (Cond.instanceMethod yX2_liveDay) ∈ UW := wU 510 (by decide +kernel) (by decide +kernel)
theorem wc_X2_liveDay : (Cond.code yX2_liveDay cX2_liveDay 3 (Option.none : Option FieldType)) ∈ UW := wU 511 (by decide +kernel) (by decide +kernel)
theorem wm_X2_104 : (Cond.methodLink "RoofWater$Village" 104 yX3_rainOn) ∈ UW := wU 512 (by decide +kernel) (by decide +kernel)
theorem wi_X3_rainOn : (Cond.instanceMethod yX3_rainOn) ∈ UW := wU 513 (by decide +kernel) (by decide +kernel)
theorem ws_X3_rainOn : (Cond.selects "RoofWater$Weather" yX3_rainOn yX3_rainOn) ∈ UW := wU 514 (by decide +kernel) (by decide +kernel)
theorem wc_X3_rainOn : (Cond.code yX3_rainOn cX3_rainOn 2 (Option.some FieldType.int)) ∈ UW := wU 515 (by decide +kernel) (by decide +kernel)
theorem wm_X3_16 : (Cond.methodLink "RoofWater$Weather" 16 yJ9_floorMod_7cf53) ∈ UW := wU 516 (by decide +kernel) (by decide +kernel)
theorem wt_J9_floorMod_7cf53 : (Cond.static yJ9_floorMod_7cf53) ∈ UW := wU 517 (by decide +kernel) (by decide +kernel)
theorem wc_J9_floorMod_7cf53 : (Cond.code yJ9_floorMod_7cf53 cJ9_floorMod_7cf53 3 (Option.some FieldType.int)) ∈ UW := wU 518 (by decide +kernel) (by decide +kernel)
theorem wm_X2_109 : (Cond.methodLink "RoofWater$Village" 109 yX2_rainDown) ∈ UW := wU 519 (by decide +kernel) (by decide +kernel)
theorem wi_X2_rainDown : (Cond.instanceMethod yX2_rainDown) ∈ UW := wU 521 (by decide +kernel) (by decide +kernel)
theorem wc_X2_rainDown : (Cond.code yX2_rainDown cX2_rainDown 4 (Option.none : Option FieldType)) ∈ UW := wU 522 (by decide +kernel) (by decide +kernel)
theorem wm_X2_128 : (Cond.methodLink "RoofWater$Village" 128 yX0_runOff) ∈ UW := wU 523 (by decide +kernel) (by decide +kernel)
theorem wi_X0_runOff : (Cond.instanceMethod yX0_runOff) ∈ UW := wU 524 (by decide +kernel) (by decide +kernel)
theorem ws_X0_runOff : (Cond.selects "RoofWater$House" yX0_runOff yX0_runOff) ∈ UW := wU 525 (by decide +kernel) (by decide +kernel)
theorem wc_X0_runOff : (Cond.code yX0_runOff cX0_runOff 2 (Option.some FieldType.int)) ∈ UW := wU 526 (by decide +kernel) (by decide +kernel)
theorem wm_X2_131 : (Cond.methodLink "RoofWater$Village" 131 yX2_pour) ∈ UW := wU 527 (by decide +kernel) (by decide +kernel)
theorem wm_X2_113 : (Cond.methodLink "RoofWater$Village" 113 yX0_drink) ∈ UW := wU 528 (by decide +kernel) (by decide +kernel)
theorem wi_X0_drink : (Cond.instanceMethod yX0_drink) ∈ UW := wU 529 (by decide +kernel) (by decide +kernel)
theorem ws_X0_drink : (Cond.selects "RoofWater$House" yX0_drink yX0_drink) ∈ UW := wU 530 (by decide +kernel) (by decide +kernel)
theorem wc_X0_drink : (Cond.code yX0_drink cX0_drink 3 (Option.some FieldType.int)) ∈ UW := wU 531 (by decide +kernel) (by decide +kernel)
theorem wm_X2_116 : (Cond.methodLink "RoofWater$Village" 116 yX0_waterGarden) ∈ UW := wU 532 (by decide +kernel) (by decide +kernel)
theorem wi_X0_waterGarden : (Cond.instanceMethod yX0_waterGarden) ∈ UW := wU 533 (by decide +kernel) (by decide +kernel)
theorem ws_X0_waterGarden : (Cond.selects "RoofWater$House" yX0_waterGarden yX0_waterGarden) ∈ UW := wU 534 (by decide +kernel) (by decide +kernel)
theorem wc_X0_waterGarden : (Cond.code yX0_waterGarden cX0_waterGarden 3 (Option.none : Option FieldType)) ∈ UW := wU 535 (by decide +kernel) (by decide +kernel)
theorem wm_X2_119 : (Cond.methodLink "RoofWater$Village" 119 yX2_openPipesFlow) ∈ UW := wU 536 (by decide +kernel) (by decide +kernel)
theorem wi_X2_openPipesFlow : (Cond.instanceMethod yX2_openPipesFlow) ∈ UW := wU 538 (by decide +kernel) (by decide +kernel)
theorem wc_X2_openPipesFlow : (Cond.code yX2_openPipesFlow cX2_openPipesFlow 3 (Option.none : Option FieldType)) ∈ UW := wU 539 (by decide +kernel) (by decide +kernel)
theorem wm_X2_135 : (Cond.methodLink "RoofWater$Village" 135 yX1_evenOut) ∈ UW := wU 540 (by decide +kernel) (by decide +kernel)
theorem wi_X1_evenOut : (Cond.instanceMethod yX1_evenOut) ∈ UW := wU 541 (by decide +kernel) (by decide +kernel)
theorem ws_X1_evenOut : (Cond.selects "RoofWater$Pipe" yX1_evenOut yX1_evenOut) ∈ UW := wU 542 (by decide +kernel) (by decide +kernel)
theorem wc_X1_evenOut : (Cond.code yX1_evenOut cX1_evenOut 6 (Option.none : Option FieldType)) ∈ UW := wU 543 (by decide +kernel) (by decide +kernel)
theorem wm_X1_37 : (Cond.methodLink "RoofWater$Pipe" 37 yJ9_min_7cf53) ∈ UW := wU 544 (by decide +kernel) (by decide +kernel)
theorem wm_X1_43 : (Cond.methodLink "RoofWater$Pipe" 43 yJ9_max_7cf53) ∈ UW := wU 545 (by decide +kernel) (by decide +kernel)
theorem wm_X1_46 : (Cond.methodLink "RoofWater$Pipe" 46 yJ9_abs_0f7a4) ∈ UW := wU 546 (by decide +kernel) (by decide +kernel)
theorem wt_J9_abs_0f7a4 : (Cond.static yJ9_abs_0f7a4) ∈ UW := wU 547 (by decide +kernel) (by decide +kernel)
theorem wc_J9_abs_0f7a4 : (Cond.code yJ9_abs_0f7a4 cJ9_abs_0f7a4 1 (Option.some FieldType.int)) ∈ UW := wU 548 (by decide +kernel) (by decide +kernel)
theorem wm_X2_122 : (Cond.methodLink "RoofWater$Village" 122 yX3_leavesOn) ∈ UW := wU 549 (by decide +kernel) (by decide +kernel)
theorem wi_X3_leavesOn : (Cond.instanceMethod yX3_leavesOn) ∈ UW := wU 550 (by decide +kernel) (by decide +kernel)
theorem ws_X3_leavesOn : (Cond.selects "RoofWater$Weather" yX3_leavesOn yX3_leavesOn) ∈ UW := wU 551 (by decide +kernel) (by decide +kernel)
theorem wc_X3_leavesOn : (Cond.code yX3_leavesOn cX3_leavesOn 2 (Option.some FieldType.int)) ∈ UW := wU 552 (by decide +kernel) (by decide +kernel)
theorem wm_X2_125 : (Cond.methodLink "RoofWater$Village" 125 yX0_clog) ∈ UW := wU 553 (by decide +kernel) (by decide +kernel)
theorem wi_X0_clog : (Cond.instanceMethod yX0_clog) ∈ UW := wU 554 (by decide +kernel) (by decide +kernel)
theorem ws_X0_clog : (Cond.selects "RoofWater$House" yX0_clog yX0_clog) ∈ UW := wU 555 (by decide +kernel) (by decide +kernel)
theorem wc_X0_clog : (Cond.code yX0_clog cX0_clog 2 (Option.none : Option FieldType)) ∈ UW := wU 556 (by decide +kernel) (by decide +kernel)
theorem wm_L_125 : (Cond.methodLink "RoofWaterLaw" 125 yL_count) ∈ UW := wU 557 (by decide +kernel) (by decide +kernel)
theorem wt_L_count : (Cond.static yL_count) ∈ UW := wU 558 (by decide +kernel) (by decide +kernel)
theorem wc_L_count : (Cond.codeWith yL_count cL_count 4 (Option.some FieldType.int) [(0, 9, 12, 13)]) ∈ UW := wU 559 (by decide +kernel) (by decide +kernel)
theorem wm_L_56 : (Cond.methodLink "RoofWaterLaw" 56 yX4_count) ∈ UW := wU 560 (by decide +kernel) (by decide +kernel)
theorem wi_X4_count : (Cond.instanceMethod yX4_count) ∈ UW := wU 561 (by decide +kernel) (by decide +kernel)
theorem ws_X4_count : (Cond.selects "RoofWater" yX4_count yX4_count) ∈ UW := wU 562 (by decide +kernel) (by decide +kernel)
theorem wc_X4_count : (Cond.code yX4_count cX4_count 2 (Option.some FieldType.int)) ∈ UW := wU 563 (by decide +kernel) (by decide +kernel)
theorem wm_L_128 : (Cond.methodLink "RoofWaterLaw" 128 yL_foresee) ∈ UW := wU 564 (by decide +kernel) (by decide +kernel)
theorem wt_L_foresee : (Cond.static yL_foresee) ∈ UW := wU 565 (by decide +kernel) (by decide +kernel)
theorem wc_L_foresee : (Cond.codeWith yL_foresee cL_foresee 5 (Option.some FieldType.int) [(0, 10, 13, 15), (0, 10, 17, 13)]) ∈ UW := wU 566 (by decide +kernel) (by decide +kernel)
theorem wm_L_59 : (Cond.methodLink "RoofWaterLaw" 59 yX4_foresee) ∈ UW := wU 567 (by decide +kernel) (by decide +kernel)
theorem wi_X4_foresee : (Cond.instanceMethod yX4_foresee) ∈ UW := wU 568 (by decide +kernel) (by decide +kernel)
theorem ws_X4_foresee : (Cond.selects "RoofWater" yX4_foresee yX4_foresee) ∈ UW := wU 569 (by decide +kernel) (by decide +kernel)
theorem wc_X4_foresee : (Cond.code yX4_foresee cX4_foresee 4 (Option.some FieldType.int)) ∈ UW := wU 570 (by decide +kernel) (by decide +kernel)
theorem wm_X4_128 : (Cond.methodLink "RoofWater" 128 yX2_copy) ∈ UW := wU 571 (by decide +kernel) (by decide +kernel)
theorem wi_X2_copy : (Cond.instanceMethod yX2_copy) ∈ UW := wU 572 (by decide +kernel) (by decide +kernel)
theorem ws_X2_copy : (Cond.selects "RoofWater$Village" yX2_copy yX2_copy) ∈ UW := wU 573 (by decide +kernel) (by decide +kernel)
theorem wc_X2_copy : (Cond.code yX2_copy cX2_copy 3 (Option.none : Option FieldType)) ∈ UW := wU 574 (by decide +kernel) (by decide +kernel)
theorem wm_X2_51 : (Cond.methodLink "RoofWater$Village" 51 yX0_copy) ∈ UW := wU 575 (by decide +kernel) (by decide +kernel)
theorem wi_X0_copy : (Cond.instanceMethod yX0_copy) ∈ UW := wU 576 (by decide +kernel) (by decide +kernel)
theorem ws_X0_copy : (Cond.selects "RoofWater$House" yX0_copy yX0_copy) ∈ UW := wU 577 (by decide +kernel) (by decide +kernel)
theorem wc_X0_copy : (Cond.code yX0_copy cX0_copy 2 (Option.none : Option FieldType)) ∈ UW := wU 578 (by decide +kernel) (by decide +kernel)
theorem wm_X2_55 : (Cond.methodLink "RoofWater$Village" 55 yX1_copy) ∈ UW := wU 579 (by decide +kernel) (by decide +kernel)
theorem wi_X1_copy : (Cond.instanceMethod yX1_copy) ∈ UW := wU 580 (by decide +kernel) (by decide +kernel)
theorem ws_X1_copy : (Cond.selects "RoofWater$Pipe" yX1_copy yX1_copy) ∈ UW := wU 581 (by decide +kernel) (by decide +kernel)
theorem wc_X1_copy : (Cond.code yX1_copy cX1_copy 2 (Option.none : Option FieldType)) ∈ UW := wU 582 (by decide +kernel) (by decide +kernel)
theorem wm_L_131 : (Cond.methodLink "RoofWaterLaw" 131 yL_lasts) ∈ UW := wU 583 (by decide +kernel) (by decide +kernel)
theorem wt_L_lasts : (Cond.static yL_lasts) ∈ UW := wU 584 (by decide +kernel) (by decide +kernel)
theorem wc_L_lasts : (Cond.codeWith yL_lasts cL_lasts 4 (Option.some FieldType.int) [(0, 9, 12, 13)]) ∈ UW := wU 585 (by decide +kernel) (by decide +kernel)
theorem wm_L_62 : (Cond.methodLink "RoofWaterLaw" 62 yX4_lasts) ∈ UW := wU 586 (by decide +kernel) (by decide +kernel)
theorem wi_X4_lasts : (Cond.instanceMethod yX4_lasts) ∈ UW := wU 587 (by decide +kernel) (by decide +kernel)
theorem ws_X4_lasts : (Cond.selects "RoofWater" yX4_lasts yX4_lasts) ∈ UW := wU 588 (by decide +kernel) (by decide +kernel)
theorem wc_X4_lasts : (Cond.code yX4_lasts cX4_lasts 2 (Option.some FieldType.int)) ∈ UW := wU 589 (by decide +kernel) (by decide +kernel)
theorem wm_X4_139 : (Cond.methodLink "RoofWater" 139 yX2_daysToThirst) ∈ UW := wU 590 (by decide +kernel) (by decide +kernel)
theorem wi_X2_daysToThirst : (Cond.instanceMethod yX2_daysToThirst) ∈ UW := wU 591 (by decide +kernel) (by decide +kernel)
theorem ws_X2_daysToThirst : (Cond.selects "RoofWater$Village" yX2_daysToThirst yX2_daysToThirst) ∈ UW := wU 592 (by decide +kernel) (by decide +kernel)
theorem wc_X2_daysToThirst : (Cond.code yX2_daysToThirst cX2_daysToThirst 6 (Option.some FieldType.int)) ∈ UW := wU 593 (by decide +kernel) (by decide +kernel)
theorem wm_L_134 : (Cond.methodLink "RoofWaterLaw" 134 yL_needs) ∈ UW := wU 594 (by decide +kernel) (by decide +kernel)
theorem wt_L_needs : (Cond.static yL_needs) ∈ UW := wU 595 (by decide +kernel) (by decide +kernel)
theorem wc_L_needs : (Cond.codeWith yL_needs cL_needs 5 (Option.some FieldType.int) [(0, 10, 13, 13), (0, 10, 17, 15)]) ∈ UW := wU 596 (by decide +kernel) (by decide +kernel)
theorem wm_L_65 : (Cond.methodLink "RoofWaterLaw" 65 yX4_needs) ∈ UW := wU 597 (by decide +kernel) (by decide +kernel)
theorem wi_X4_needs : (Cond.instanceMethod yX4_needs) ∈ UW := wU 598 (by decide +kernel) (by decide +kernel)
theorem ws_X4_needs : (Cond.selects "RoofWater" yX4_needs yX4_needs) ∈ UW := wU 599 (by decide +kernel) (by decide +kernel)
theorem wc_X4_needs : (Cond.code yX4_needs cX4_needs 4 (Option.some FieldType.int)) ∈ UW := wU 600 (by decide +kernel) (by decide +kernel)
theorem wm_X4_142 : (Cond.methodLink "RoofWater" 142 yX0_resize) ∈ UW := wU 601 (by decide +kernel) (by decide +kernel)
theorem wi_X0_resize : (Cond.instanceMethod yX0_resize) ∈ UW := wU 602 (by decide +kernel) (by decide +kernel)
theorem ws_X0_resize : (Cond.selects "RoofWater$House" yX0_resize yX0_resize) ∈ UW := wU 603 (by decide +kernel) (by decide +kernel)
theorem wc_X0_resize : (Cond.code yX0_resize cX0_resize 2 (Option.none : Option FieldType)) ∈ UW := wU 604 (by decide +kernel) (by decide +kernel)
theorem wm_L_137 : (Cond.methodLink "RoofWaterLaw" 137 yL_dirty) ∈ UW := wU 605 (by decide +kernel) (by decide +kernel)
theorem wt_L_dirty : (Cond.static yL_dirty) ∈ UW := wU 606 (by decide +kernel) (by decide +kernel)
theorem wc_L_dirty : (Cond.codeWith yL_dirty cL_dirty 4 (Option.some FieldType.int) [(0, 9, 12, 15)]) ∈ UW := wU 607 (by decide +kernel) (by decide +kernel)
theorem wm_L_68 : (Cond.methodLink "RoofWaterLaw" 68 yX4_dirty) ∈ UW := wU 608 (by decide +kernel) (by decide +kernel)
theorem wi_X4_dirty : (Cond.instanceMethod yX4_dirty) ∈ UW := wU 609 (by decide +kernel) (by decide +kernel)
theorem ws_X4_dirty : (Cond.selects "RoofWater" yX4_dirty yX4_dirty) ∈ UW := wU 610 (by decide +kernel) (by decide +kernel)
theorem wc_X4_dirty : (Cond.code yX4_dirty cX4_dirty 6 (Option.some FieldType.int)) ∈ UW := wU 611 (by decide +kernel) (by decide +kernel)
theorem wm_L_140 : (Cond.methodLink "RoofWaterLaw" 140 yL_advise) ∈ UW := wU 612 (by decide +kernel) (by decide +kernel)
theorem wt_L_advise : (Cond.static yL_advise) ∈ UW := wU 613 (by decide +kernel) (by decide +kernel)
theorem wc_L_advise : (Cond.codeWith yL_advise cL_advise 4 (Option.some FieldType.int) [(0, 9, 12, 15)]) ∈ UW := wU 614 (by decide +kernel) (by decide +kernel)
theorem wm_L_71 : (Cond.methodLink "RoofWaterLaw" 71 yX4_advise) ∈ UW := wU 615 (by decide +kernel) (by decide +kernel)
theorem wi_X4_advise : (Cond.instanceMethod yX4_advise) ∈ UW := wU 616 (by decide +kernel) (by decide +kernel)
theorem ws_X4_advise : (Cond.selects "RoofWater" yX4_advise yX4_advise) ∈ UW := wU 617 (by decide +kernel) (by decide +kernel)
theorem wc_X4_advise : (Cond.code yX4_advise cX4_advise 6 (Option.some FieldType.int)) ∈ UW := wU 618 (by decide +kernel) (by decide +kernel)
theorem wk_L_75 : (Cond.classLink "RoofWaterLaw" 75 "RoofWaterModel") ∈ UW := wU 619 (by decide +kernel) (by decide +kernel)
theorem wn_X5 : (Cond.instantiable "RoofWaterModel" 9) ∈ UW := wU 620 (by decide +kernel) (by decide +kernel)
theorem wm_L_77 : (Cond.methodLink "RoofWaterLaw" 77 yX5_init) ∈ UW := wU 621 (by decide +kernel) (by decide +kernel)
theorem wi_X5_init : (Cond.instanceMethod yX5_init) ∈ UW := wU 622 (by decide +kernel) (by decide +kernel)
theorem wc_X5_init : (Cond.code yX5_init cX5_init 1 (Option.none : Option FieldType)) ∈ UW := wU 623 (by decide +kernel) (by decide +kernel)
theorem wm_X5_1 : (Cond.methodLink "RoofWaterModel" 1 ({ cls := "java/lang/Object", name := "<init>", desc := "()V" } : MethodName)) ∈ UW := wU 624 (by decide +kernel) (by decide +kernel)
theorem wf_X5_28 : (Cond.fieldLink "RoofWaterModel" 28 "RoofWaterModel" "thrown" "I") ∈ UW := wU 625 (by decide +kernel) (by decide +kernel)
theorem wf_X5_9 : (Cond.fieldLink "RoofWaterModel" 9 "RoofWaterModel" "rain" "[I") ∈ UW := wU 626 (by decide +kernel) (by decide +kernel)
theorem wf_X5_13 : (Cond.fieldLink "RoofWaterModel" 13 "RoofWaterModel" "leaves" "[I") ∈ UW := wU 627 (by decide +kernel) (by decide +kernel)
theorem wf_X5_32 : (Cond.fieldLink "RoofWaterModel" 32 "RoofWaterModel" "houses" "I") ∈ UW := wU 628 (by decide +kernel) (by decide +kernel)
theorem wf_X5_39 : (Cond.fieldLink "RoofWaterModel" 39 "RoofWaterModel" "pipes" "I") ∈ UW := wU 629 (by decide +kernel) (by decide +kernel)
theorem wf_X5_16 : (Cond.fieldLink "RoofWaterModel" 16 "RoofWaterModel" "village" "[I") ∈ UW := wU 630 (by decide +kernel) (by decide +kernel)
theorem wf_X5_19 : (Cond.fieldLink "RoofWaterModel" 19 "RoofWaterModel" "laid" "[I") ∈ UW := wU 631 (by decide +kernel) (by decide +kernel)
theorem wf_X5_22 : (Cond.fieldLink "RoofWaterModel" 22 "RoofWaterModel" "from" "[I") ∈ UW := wU 632 (by decide +kernel) (by decide +kernel)
theorem wf_X5_25 : (Cond.fieldLink "RoofWaterModel" 25 "RoofWaterModel" "numbers" "[I") ∈ UW := wU 633 (by decide +kernel) (by decide +kernel)
theorem wl_X5_thrown : (Cond.lays "RoofWaterModel" "RoofWaterModel" "thrown" "I") ∈ UW := wU 634 (by decide +kernel) (by decide +kernel)
theorem wl_X5_rain : (Cond.laysFinal "RoofWaterModel" "RoofWaterModel" "rain" "[I") ∈ UW := wU 636 (by decide +kernel) (by decide +kernel)
theorem wl_X5_leaves : (Cond.laysFinal "RoofWaterModel" "RoofWaterModel" "leaves" "[I") ∈ UW := wU 638 (by decide +kernel) (by decide +kernel)
theorem wl_X5_houses : (Cond.lays "RoofWaterModel" "RoofWaterModel" "houses" "I") ∈ UW := wU 640 (by decide +kernel) (by decide +kernel)
theorem wl_X5_pipes : (Cond.lays "RoofWaterModel" "RoofWaterModel" "pipes" "I") ∈ UW := wU 642 (by decide +kernel) (by decide +kernel)
theorem wl_X5_village : (Cond.laysFinal "RoofWaterModel" "RoofWaterModel" "village" "[I") ∈ UW := wU 644 (by decide +kernel) (by decide +kernel)
theorem wl_X5_laid : (Cond.laysFinal "RoofWaterModel" "RoofWaterModel" "laid" "[I") ∈ UW := wU 646 (by decide +kernel) (by decide +kernel)
theorem wl_X5_from : (Cond.laysFinal "RoofWaterModel" "RoofWaterModel" "from" "[I") ∈ UW := wU 648 (by decide +kernel) (by decide +kernel)
theorem wl_X5_numbers : (Cond.laysFinal "RoofWaterModel" "RoofWaterModel" "numbers" "[I") ∈ UW := wU 650 (by decide +kernel) (by decide +kernel)
theorem wm_L_84 : (Cond.methodLink "RoofWaterLaw" 84 yX5_thrown) ∈ UW := wU 653 (by decide +kernel) (by decide +kernel)
theorem wi_X5_thrown : (Cond.instanceMethod yX5_thrown) ∈ UW := wU 654 (by decide +kernel) (by decide +kernel)
theorem ws_X5_thrown : (Cond.selects "RoofWaterModel" yX5_thrown yX5_thrown) ∈ UW := wU 655 (by decide +kernel) (by decide +kernel)
theorem wc_X5_thrown : (Cond.code yX5_thrown cX5_thrown 1 (Option.some FieldType.int)) ∈ UW := wU 656 (by decide +kernel) (by decide +kernel)
theorem wm_L_83 : (Cond.methodLink "RoofWaterLaw" 83 yX5_setWeather) ∈ UW := wU 657 (by decide +kernel) (by decide +kernel)
theorem wi_X5_setWeather : (Cond.instanceMethod yX5_setWeather) ∈ UW := wU 658 (by decide +kernel) (by decide +kernel)
theorem ws_X5_setWeather : (Cond.selects "RoofWaterModel" yX5_setWeather yX5_setWeather) ∈ UW := wU 659 (by decide +kernel) (by decide +kernel)
theorem wc_X5_setWeather : (Cond.code yX5_setWeather cX5_setWeather 5 (Option.some FieldType.int)) ∈ UW := wU 660 (by decide +kernel) (by decide +kernel)
theorem wm_X5_35 : (Cond.methodLink "RoofWaterModel" 35 yX5_isIn) ∈ UW := wU 661 (by decide +kernel) (by decide +kernel)
theorem wt_X5_isIn : (Cond.static yX5_isIn) ∈ UW := wU 662 (by decide +kernel) (by decide +kernel)
theorem wc_X5_isIn : (Cond.code yX5_isIn cX5_isIn 3 (Option.some FieldType.boolean)) ∈ UW := wU 663 (by decide +kernel) (by decide +kernel)
theorem wm_X5_42 : (Cond.methodLink "RoofWaterModel" 42 yX5_fail) ∈ UW := wU 664 (by decide +kernel) (by decide +kernel)
theorem wi_X5_fail : (Cond.instanceMethod yX5_fail) ∈ UW := wU 666 (by decide +kernel) (by decide +kernel)
theorem wc_X5_fail : (Cond.code yX5_fail cX5_fail 2 (Option.some FieldType.int)) ∈ UW := wU 667 (by decide +kernel) (by decide +kernel)
theorem wm_L_91 : (Cond.methodLink "RoofWaterLaw" 91 yX5_build) ∈ UW := wU 668 (by decide +kernel) (by decide +kernel)
theorem wi_X5_build : (Cond.instanceMethod yX5_build) ∈ UW := wU 669 (by decide +kernel) (by decide +kernel)
theorem ws_X5_build : (Cond.selects "RoofWaterModel" yX5_build yX5_build) ∈ UW := wU 670 (by decide +kernel) (by decide +kernel)
theorem wc_X5_build : (Cond.code yX5_build cX5_build 6 (Option.some FieldType.int)) ∈ UW := wU 671 (by decide +kernel) (by decide +kernel)
theorem wm_X5_46 : (Cond.methodLink "RoofWaterModel" 46 ({ cls := "java/lang/System", name := "arraycopy", desc := "(Ljava/lang/Object;ILjava/lang/Object;II)V" } : MethodName)) ∈ UW := wU 672 (by decide +kernel) (by decide +kernel)
theorem wt_System_arraycopy : (Cond.static ({ cls := "java/lang/System", name := "arraycopy", desc := "(Ljava/lang/Object;ILjava/lang/Object;II)V" } : MethodName)) ∈ UW := wU 673 (by decide +kernel) (by decide +kernel)
theorem wv_System_arraycopy : (Cond.native ({ cls := "java/lang/System", name := "arraycopy", desc := "(Ljava/lang/Object;ILjava/lang/Object;II)V" } : MethodName)) ∈ UW := wU 674 (by decide +kernel) (by decide +kernel)
theorem wm_L_95 : (Cond.methodLink "RoofWaterLaw" 95 yX5_chain) ∈ UW := wU 675 (by decide +kernel) (by decide +kernel)
theorem wi_X5_chain : (Cond.instanceMethod yX5_chain) ∈ UW := wU 676 (by decide +kernel) (by decide +kernel)
theorem ws_X5_chain : (Cond.selects "RoofWaterModel" yX5_chain yX5_chain) ∈ UW := wU 677 (by decide +kernel) (by decide +kernel)
theorem wc_X5_chain : (Cond.code yX5_chain cX5_chain 5 (Option.some FieldType.int)) ∈ UW := wU 678 (by decide +kernel) (by decide +kernel)
theorem wm_X5_52 : (Cond.methodLink "RoofWaterModel" 52 yX5_isHouse) ∈ UW := wU 679 (by decide +kernel) (by decide +kernel)
theorem wi_X5_isHouse : (Cond.instanceMethod yX5_isHouse) ∈ UW := wU 681 (by decide +kernel) (by decide +kernel)
theorem wc_X5_isHouse : (Cond.code yX5_isHouse cX5_isHouse 2 (Option.some FieldType.boolean)) ∈ UW := wU 682 (by decide +kernel) (by decide +kernel)
theorem wm_X5_56 : (Cond.methodLink "RoofWaterModel" 56 yX5_ho) ∈ UW := wU 683 (by decide +kernel) (by decide +kernel)
theorem wi_X5_ho : (Cond.instanceMethod yX5_ho) ∈ UW := wU 685 (by decide +kernel) (by decide +kernel)
theorem wc_X5_ho : (Cond.code yX5_ho cX5_ho 3 (Option.some FieldType.int)) ∈ UW := wU 686 (by decide +kernel) (by decide +kernel)
theorem wm_X5_60 : (Cond.methodLink "RoofWaterModel" 60 yX5_set) ∈ UW := wU 687 (by decide +kernel) (by decide +kernel)
theorem wi_X5_set : (Cond.instanceMethod yX5_set) ∈ UW := wU 689 (by decide +kernel) (by decide +kernel)
theorem wc_X5_set : (Cond.code yX5_set cX5_set 4 (Option.none : Option FieldType)) ∈ UW := wU 690 (by decide +kernel) (by decide +kernel)
theorem wm_L_98 : (Cond.methodLink "RoofWaterLaw" 98 yX5_lay) ∈ UW := wU 691 (by decide +kernel) (by decide +kernel)
theorem wi_X5_lay : (Cond.instanceMethod yX5_lay) ∈ UW := wU 692 (by decide +kernel) (by decide +kernel)
theorem ws_X5_lay : (Cond.selects "RoofWaterModel" yX5_lay yX5_lay) ∈ UW := wU 693 (by decide +kernel) (by decide +kernel)
theorem wc_X5_lay : (Cond.code yX5_lay cX5_lay 5 (Option.some FieldType.int)) ∈ UW := wU 694 (by decide +kernel) (by decide +kernel)
theorem wm_L_102 : (Cond.methodLink "RoofWaterLaw" 102 yX5_turn) ∈ UW := wU 695 (by decide +kernel) (by decide +kernel)
theorem wi_X5_turn : (Cond.instanceMethod yX5_turn) ∈ UW := wU 696 (by decide +kernel) (by decide +kernel)
theorem ws_X5_turn : (Cond.selects "RoofWaterModel" yX5_turn yX5_turn) ∈ UW := wU 697 (by decide +kernel) (by decide +kernel)
theorem wc_X5_turn : (Cond.code yX5_turn cX5_turn 4 (Option.some FieldType.boolean)) ∈ UW := wU 698 (by decide +kernel) (by decide +kernel)
theorem wm_X5_64 : (Cond.methodLink "RoofWaterModel" 64 yX5_isPipe) ∈ UW := wU 699 (by decide +kernel) (by decide +kernel)
theorem wi_X5_isPipe : (Cond.instanceMethod yX5_isPipe) ∈ UW := wU 701 (by decide +kernel) (by decide +kernel)
theorem wc_X5_isPipe : (Cond.code yX5_isPipe cX5_isPipe 2 (Option.some FieldType.boolean)) ∈ UW := wU 702 (by decide +kernel) (by decide +kernel)
theorem wm_X5_67 : (Cond.methodLink "RoofWaterModel" 67 yX5_pi) ∈ UW := wU 703 (by decide +kernel) (by decide +kernel)
theorem wi_X5_pi : (Cond.instanceMethod yX5_pi) ∈ UW := wU 705 (by decide +kernel) (by decide +kernel)
theorem wc_X5_pi : (Cond.code yX5_pi cX5_pi 3 (Option.some FieldType.int)) ∈ UW := wU 706 (by decide +kernel) (by decide +kernel)
theorem wm_L_106 : (Cond.methodLink "RoofWaterLaw" 106 yX5_clean) ∈ UW := wU 707 (by decide +kernel) (by decide +kernel)
theorem wi_X5_clean : (Cond.instanceMethod yX5_clean) ∈ UW := wU 708 (by decide +kernel) (by decide +kernel)
theorem ws_X5_clean : (Cond.selects "RoofWaterModel" yX5_clean yX5_clean) ∈ UW := wU 709 (by decide +kernel) (by decide +kernel)
theorem wc_X5_clean : (Cond.code yX5_clean cX5_clean 3 (Option.some FieldType.int)) ∈ UW := wU 710 (by decide +kernel) (by decide +kernel)
theorem wm_L_109 : (Cond.methodLink "RoofWaterLaw" 109 yX5_cart) ∈ UW := wU 711 (by decide +kernel) (by decide +kernel)
theorem wi_X5_cart : (Cond.instanceMethod yX5_cart) ∈ UW := wU 712 (by decide +kernel) (by decide +kernel)
theorem ws_X5_cart : (Cond.selects "RoofWaterModel" yX5_cart yX5_cart) ∈ UW := wU 713 (by decide +kernel) (by decide +kernel)
theorem wc_X5_cart : (Cond.code yX5_cart cX5_cart 3 (Option.some FieldType.int)) ∈ UW := wU 714 (by decide +kernel) (by decide +kernel)
theorem wm_X5_75 : (Cond.methodLink "RoofWaterModel" 75 yX5_pour) ∈ UW := wU 715 (by decide +kernel) (by decide +kernel)
theorem wi_X5_pour : (Cond.instanceMethod yX5_pour) ∈ UW := wU 717 (by decide +kernel) (by decide +kernel)
theorem wc_X5_pour : (Cond.code yX5_pour cX5_pour 6 (Option.some FieldType.int)) ∈ UW := wU 718 (by decide +kernel) (by decide +kernel)
theorem wm_X5_70 : (Cond.methodLink "RoofWaterModel" 70 yJ9_min_7cf53) ∈ UW := wU 719 (by decide +kernel) (by decide +kernel)
theorem wm_L_112 : (Cond.methodLink "RoofWaterLaw" 112 yX5_setPeople) ∈ UW := wU 720 (by decide +kernel) (by decide +kernel)
theorem wi_X5_setPeople : (Cond.instanceMethod yX5_setPeople) ∈ UW := wU 721 (by decide +kernel) (by decide +kernel)
theorem ws_X5_setPeople : (Cond.selects "RoofWaterModel" yX5_setPeople yX5_setPeople) ∈ UW := wU 722 (by decide +kernel) (by decide +kernel)
theorem wc_X5_setPeople : (Cond.code yX5_setPeople cX5_setPeople 4 (Option.some FieldType.int)) ∈ UW := wU 723 (by decide +kernel) (by decide +kernel)
theorem wm_L_115 : (Cond.methodLink "RoofWaterLaw" 115 yX5_house) ∈ UW := wU 724 (by decide +kernel) (by decide +kernel)
theorem wi_X5_house : (Cond.instanceMethod yX5_house) ∈ UW := wU 725 (by decide +kernel) (by decide +kernel)
theorem ws_X5_house : (Cond.selects "RoofWaterModel" yX5_house yX5_house) ∈ UW := wU 726 (by decide +kernel) (by decide +kernel)
theorem wc_X5_house : (Cond.code yX5_house cX5_house 3 (Option.some FieldType.int)) ∈ UW := wU 727 (by decide +kernel) (by decide +kernel)
theorem wm_L_118 : (Cond.methodLink "RoofWaterLaw" 118 yX5_pipe) ∈ UW := wU 728 (by decide +kernel) (by decide +kernel)
theorem wi_X5_pipe : (Cond.instanceMethod yX5_pipe) ∈ UW := wU 729 (by decide +kernel) (by decide +kernel)
theorem ws_X5_pipe : (Cond.selects "RoofWaterModel" yX5_pipe yX5_pipe) ∈ UW := wU 730 (by decide +kernel) (by decide +kernel)
theorem wc_X5_pipe : (Cond.code yX5_pipe cX5_pipe 3 (Option.some FieldType.int)) ∈ UW := wU 731 (by decide +kernel) (by decide +kernel)
theorem wm_L_121 : (Cond.methodLink "RoofWaterLaw" 121 yX5_owes) ∈ UW := wU 732 (by decide +kernel) (by decide +kernel)
theorem wi_X5_owes : (Cond.instanceMethod yX5_owes) ∈ UW := wU 733 (by decide +kernel) (by decide +kernel)
theorem ws_X5_owes : (Cond.selects "RoofWaterModel" yX5_owes yX5_owes) ∈ UW := wU 734 (by decide +kernel) (by decide +kernel)
theorem wc_X5_owes : (Cond.code yX5_owes cX5_owes 3 (Option.some FieldType.int)) ∈ UW := wU 735 (by decide +kernel) (by decide +kernel)
theorem wm_X5_78 : (Cond.methodLink "RoofWaterModel" 78 yX5_debt) ∈ UW := wU 736 (by decide +kernel) (by decide +kernel)
theorem wi_X5_debt : (Cond.instanceMethod yX5_debt) ∈ UW := wU 738 (by decide +kernel) (by decide +kernel)
theorem wc_X5_debt : (Cond.code yX5_debt cX5_debt 3 (Option.some FieldType.int)) ∈ UW := wU 739 (by decide +kernel) (by decide +kernel)
theorem wm_L_124 : (Cond.methodLink "RoofWaterLaw" 124 yX5_pass) ∈ UW := wU 740 (by decide +kernel) (by decide +kernel)
theorem wi_X5_pass : (Cond.instanceMethod yX5_pass) ∈ UW := wU 741 (by decide +kernel) (by decide +kernel)
theorem ws_X5_pass : (Cond.selects "RoofWaterModel" yX5_pass yX5_pass) ∈ UW := wU 742 (by decide +kernel) (by decide +kernel)
theorem wc_X5_pass : (Cond.code yX5_pass cX5_pass 2 (Option.some FieldType.int)) ∈ UW := wU 743 (by decide +kernel) (by decide +kernel)
theorem wm_X5_92 : (Cond.methodLink "RoofWaterModel" 92 yX5_daysOn) ∈ UW := wU 744 (by decide +kernel) (by decide +kernel)
theorem wi_X5_daysOn : (Cond.instanceMethod yX5_daysOn) ∈ UW := wU 746 (by decide +kernel) (by decide +kernel)
theorem wc_X5_daysOn : (Cond.code yX5_daysOn cX5_daysOn 4 (Option.some FieldType.int)) ∈ UW := wU 747 (by decide +kernel) (by decide +kernel)
theorem wm_X5_88 : (Cond.methodLink "RoofWaterModel" 88 yX5_dayOn) ∈ UW := wU 748 (by decide +kernel) (by decide +kernel)
theorem wi_X5_dayOn : (Cond.instanceMethod yX5_dayOn) ∈ UW := wU 750 (by decide +kernel) (by decide +kernel)
theorem wc_X5_dayOn : (Cond.code yX5_dayOn cX5_dayOn 6 (Option.some FieldType.int)) ∈ UW := wU 751 (by decide +kernel) (by decide +kernel)
theorem wm_X5_84 : (Cond.methodLink "RoofWaterModel" 84 yX5_even) ∈ UW := wU 752 (by decide +kernel) (by decide +kernel)
theorem wi_X5_even : (Cond.instanceMethod yX5_even) ∈ UW := wU 754 (by decide +kernel) (by decide +kernel)
theorem wc_X5_even : (Cond.code yX5_even cX5_even 8 (Option.none : Option FieldType)) ∈ UW := wU 755 (by decide +kernel) (by decide +kernel)
theorem wm_X5_81 : (Cond.methodLink "RoofWaterModel" 81 yJ9_abs_0f7a4) ∈ UW := wU 756 (by decide +kernel) (by decide +kernel)
theorem wm_L_127 : (Cond.methodLink "RoofWaterLaw" 127 yX5_count) ∈ UW := wU 757 (by decide +kernel) (by decide +kernel)
theorem wi_X5_count : (Cond.instanceMethod yX5_count) ∈ UW := wU 758 (by decide +kernel) (by decide +kernel)
theorem ws_X5_count : (Cond.selects "RoofWaterModel" yX5_count yX5_count) ∈ UW := wU 759 (by decide +kernel) (by decide +kernel)
theorem wc_X5_count : (Cond.code yX5_count cX5_count 2 (Option.some FieldType.int)) ∈ UW := wU 760 (by decide +kernel) (by decide +kernel)
theorem wm_X5_98 : (Cond.methodLink "RoofWaterModel" 98 yX5_counted) ∈ UW := wU 761 (by decide +kernel) (by decide +kernel)
theorem wi_X5_counted : (Cond.instanceMethod yX5_counted) ∈ UW := wU 763 (by decide +kernel) (by decide +kernel)
theorem wc_X5_counted : (Cond.code yX5_counted cX5_counted 4 (Option.some FieldType.int)) ∈ UW := wU 764 (by decide +kernel) (by decide +kernel)
theorem wm_X5_95 : (Cond.methodLink "RoofWaterModel" 95 yX5_all) ∈ UW := wU 765 (by decide +kernel) (by decide +kernel)
theorem wi_X5_all : (Cond.instanceMethod yX5_all) ∈ UW := wU 767 (by decide +kernel) (by decide +kernel)
theorem wc_X5_all : (Cond.code yX5_all cX5_all 4 (Option.some FieldType.int)) ∈ UW := wU 768 (by decide +kernel) (by decide +kernel)
theorem wm_L_130 : (Cond.methodLink "RoofWaterLaw" 130 yX5_foresee) ∈ UW := wU 769 (by decide +kernel) (by decide +kernel)
theorem wi_X5_foresee : (Cond.instanceMethod yX5_foresee) ∈ UW := wU 770 (by decide +kernel) (by decide +kernel)
theorem ws_X5_foresee : (Cond.selects "RoofWaterModel" yX5_foresee yX5_foresee) ∈ UW := wU 771 (by decide +kernel) (by decide +kernel)
theorem wc_X5_foresee : (Cond.code yX5_foresee cX5_foresee 7 (Option.some FieldType.int)) ∈ UW := wU 772 (by decide +kernel) (by decide +kernel)
theorem wm_X5_106 : (Cond.methodLink "RoofWaterModel" 106 yX5_kept) ∈ UW := wU 773 (by decide +kernel) (by decide +kernel)
theorem wi_X5_kept : (Cond.instanceMethod yX5_kept) ∈ UW := wU 775 (by decide +kernel) (by decide +kernel)
theorem wc_X5_kept : (Cond.code yX5_kept cX5_kept 1 (Option.some (FieldType.array (FieldType.array FieldType.int)))) ∈ UW := wU 776 (by decide +kernel) (by decide +kernel)
theorem wk_X5_101 : (Cond.classLink "RoofWaterModel" 101 "[I") ∈ UW := wU 777 (by decide +kernel) (by decide +kernel)
theorem wm_X5_102 : (Cond.methodLink "RoofWaterModel" 102 ({ cls := "[I", name := "clone", desc := "()Ljava/lang/Object;" } : MethodName)) ∈ UW := wU 779 (by decide +kernel) (by decide +kernel)
theorem w9_780 : (Cond.sameMethod "[I" "java/lang/Object" "clone" "()Ljava/lang/Object;") ∈ UW := wU 780 (by decide +kernel) (by decide +kernel)
theorem wv_Object_clone : (Cond.native ({ cls := "java/lang/Object", name := "clone", desc := "()Ljava/lang/Object;" } : MethodName)) ∈ UW := wU 781 (by decide +kernel) (by decide +kernel)
theorem wi_Object_clone : (Cond.instanceMethod ({ cls := "java/lang/Object", name := "clone", desc := "()Ljava/lang/Object;" } : MethodName)) ∈ UW := wU 782 (by decide +kernel) (by decide +kernel)
theorem ws__I_clone : (Cond.selects "[I" ({ cls := "[I", name := "clone", desc := "()Ljava/lang/Object;" } : MethodName) ({ cls := "java/lang/Object", name := "clone", desc := "()Ljava/lang/Object;" } : MethodName)) ∈ UW := wU 783 (by decide +kernel) (by decide +kernel)
theorem wm_X5_110 : (Cond.methodLink "RoofWaterModel" 110 yX5_bringBack) ∈ UW := wU 785 (by decide +kernel) (by decide +kernel)
theorem wi_X5_bringBack : (Cond.instanceMethod yX5_bringBack) ∈ UW := wU 787 (by decide +kernel) (by decide +kernel)
theorem wc_X5_bringBack : (Cond.code yX5_bringBack cX5_bringBack 4 (Option.none : Option FieldType)) ∈ UW := wU 788 (by decide +kernel) (by decide +kernel)
theorem wm_L_133 : (Cond.methodLink "RoofWaterLaw" 133 yX5_lasts) ∈ UW := wU 789 (by decide +kernel) (by decide +kernel)
theorem wi_X5_lasts : (Cond.instanceMethod yX5_lasts) ∈ UW := wU 790 (by decide +kernel) (by decide +kernel)
theorem ws_X5_lasts : (Cond.selects "RoofWaterModel" yX5_lasts yX5_lasts) ∈ UW := wU 791 (by decide +kernel) (by decide +kernel)
theorem wc_X5_lasts : (Cond.code yX5_lasts cX5_lasts 5 (Option.some FieldType.int)) ∈ UW := wU 792 (by decide +kernel) (by decide +kernel)
theorem wm_L_136 : (Cond.methodLink "RoofWaterLaw" 136 yX5_needs) ∈ UW := wU 793 (by decide +kernel) (by decide +kernel)
theorem wi_X5_needs : (Cond.instanceMethod yX5_needs) ∈ UW := wU 794 (by decide +kernel) (by decide +kernel)
theorem ws_X5_needs : (Cond.selects "RoofWaterModel" yX5_needs yX5_needs) ∈ UW := wU 795 (by decide +kernel) (by decide +kernel)
theorem wc_X5_needs : (Cond.code yX5_needs cX5_needs 7 (Option.some FieldType.int)) ∈ UW := wU 796 (by decide +kernel) (by decide +kernel)
theorem wm_L_139 : (Cond.methodLink "RoofWaterLaw" 139 yX5_dirty) ∈ UW := wU 797 (by decide +kernel) (by decide +kernel)
theorem wi_X5_dirty : (Cond.instanceMethod yX5_dirty) ∈ UW := wU 798 (by decide +kernel) (by decide +kernel)
theorem ws_X5_dirty : (Cond.selects "RoofWaterModel" yX5_dirty yX5_dirty) ∈ UW := wU 799 (by decide +kernel) (by decide +kernel)
theorem wc_X5_dirty : (Cond.code yX5_dirty cX5_dirty 7 (Option.some FieldType.int)) ∈ UW := wU 800 (by decide +kernel) (by decide +kernel)
theorem wm_L_142 : (Cond.methodLink "RoofWaterLaw" 142 yX5_advise) ∈ UW := wU 801 (by decide +kernel) (by decide +kernel)
theorem wi_X5_advise : (Cond.instanceMethod yX5_advise) ∈ UW := wU 802 (by decide +kernel) (by decide +kernel)
theorem ws_X5_advise : (Cond.selects "RoofWaterModel" yX5_advise yX5_advise) ∈ UW := wU 803 (by decide +kernel) (by decide +kernel)
theorem wc_X5_advise : (Cond.code yX5_advise cX5_advise 7 (Option.some FieldType.int)) ∈ UW := wU 804 (by decide +kernel) (by decide +kernel)
theorem wm_L_146 : (Cond.methodLink "RoofWaterLaw" 146 yX5_drought) ∈ UW := wU 805 (by decide +kernel) (by decide +kernel)
theorem wi_X5_drought : (Cond.instanceMethod yX5_drought) ∈ UW := wU 806 (by decide +kernel) (by decide +kernel)
theorem ws_X5_drought : (Cond.selects "RoofWaterModel" yX5_drought yX5_drought) ∈ UW := wU 807 (by decide +kernel) (by decide +kernel)
theorem wc_X5_drought : (Cond.code yX5_drought cX5_drought 4 (Option.some FieldType.int)) ∈ UW := wU 808 (by decide +kernel) (by decide +kernel)
theorem wm_X5_114 : (Cond.methodLink "RoofWaterModel" 114 yJ9_max_7cf53) ∈ UW := wU 809 (by decide +kernel) (by decide +kernel)
theorem wm_L_151 : (Cond.methodLink "RoofWaterLaw" 151 yX5_full) ∈ UW := wU 810 (by decide +kernel) (by decide +kernel)
theorem wi_X5_full : (Cond.instanceMethod yX5_full) ∈ UW := wU 811 (by decide +kernel) (by decide +kernel)
theorem ws_X5_full : (Cond.selects "RoofWaterModel" yX5_full yX5_full) ∈ UW := wU 812 (by decide +kernel) (by decide +kernel)
theorem wc_X5_full : (Cond.code yX5_full cX5_full 1 (Option.some FieldType.double)) ∈ UW := wU 813 (by decide +kernel) (by decide +kernel)
theorem wm_L_156 : (Cond.methodLink "RoofWaterLaw" 156 yX5_digest) ∈ UW := wU 814 (by decide +kernel) (by decide +kernel)
theorem wi_X5_digest : (Cond.instanceMethod yX5_digest) ∈ UW := wU 815 (by decide +kernel) (by decide +kernel)
theorem ws_X5_digest : (Cond.selects "RoofWaterModel" yX5_digest yX5_digest) ∈ UW := wU 816 (by decide +kernel) (by decide +kernel)
theorem wc_X5_digest : (Cond.code yX5_digest cX5_digest 5 (Option.some FieldType.long)) ∈ UW := wU 817 (by decide +kernel) (by decide +kernel)
theorem wq_X5_117 : (Cond.constantLong "RoofWaterModel" 117 (673 : Int64)) ∈ UW := wU 818 (by decide +kernel) (by decide +kernel)
theorem wq_X5_119 : (Cond.constantLong "RoofWaterModel" 119 (31 : Int64)) ∈ UW := wU 819 (by decide +kernel) (by decide +kernel)
theorem wa_long : (Cond.arrayClass FieldType.long) ∈ UW := wU 820 (by decide +kernel) (by decide +kernel)
theorem w9_821 : (Cond.sameMethod "java/lang/Throwable" "java/lang/Throwable" "fillInStackTrace" "(I)Ljava/lang/Throwable;") ∈ UW := wU 821 (by decide +kernel) (by decide +kernel)
theorem ws_X2_allThirst : Cond.selects RX2 yX2_allThirst yX2_allThirst ∈ UW := wV 0 (by decide +kernel) (by decide +kernel)
theorem ws_X2_allWatered : Cond.selects RX2 yX2_allWatered yX2_allWatered ∈ UW := wV 1 (by decide +kernel) (by decide +kernel)
theorem ws_X2_openValves : Cond.selects RX2 yX2_openValves yX2_openValves ∈ UW := wV 2 (by decide +kernel) (by decide +kernel)
theorem ws_X4_mixHouses : Cond.selects RX4 yX4_mixHouses yX4_mixHouses ∈ UW := wV 3 (by decide +kernel) (by decide +kernel)
theorem ws_X4_mixPipes : Cond.selects RX4 yX4_mixPipes yX4_mixPipes ∈ UW := wV 4 (by decide +kernel) (by decide +kernel)
theorem ws_X4_mixDebts : Cond.selects RX4 yX4_mixDebts yX4_mixDebts ∈ UW := wV 5 (by decide +kernel) (by decide +kernel)
theorem ws_X4_needHouse : Cond.selects RX4 yX4_needHouse yX4_needHouse ∈ UW := wV 7 (by decide +kernel) (by decide +kernel)
theorem ws_X4_needPipe : Cond.selects RX4 yX4_needPipe yX4_needPipe ∈ UW := wV 8 (by decide +kernel) (by decide +kernel)
theorem ws_X2_liveDay : Cond.selects RX2 yX2_liveDay yX2_liveDay ∈ UW := wV 9 (by decide +kernel) (by decide +kernel)
theorem ws_X2_rainDown : Cond.selects RX2 yX2_rainDown yX2_rainDown ∈ UW := wV 10 (by decide +kernel) (by decide +kernel)
theorem ws_X2_openPipesFlow : Cond.selects RX2 yX2_openPipesFlow yX2_openPipesFlow ∈ UW := wV 11 (by decide +kernel) (by decide +kernel)
theorem ws_X5_fail : Cond.selects RX5 yX5_fail yX5_fail ∈ UW := wV 12 (by decide +kernel) (by decide +kernel)
theorem ws_X5_isHouse : Cond.selects RX5 yX5_isHouse yX5_isHouse ∈ UW := wV 13 (by decide +kernel) (by decide +kernel)
theorem ws_X5_ho : Cond.selects RX5 yX5_ho yX5_ho ∈ UW := wV 14 (by decide +kernel) (by decide +kernel)
theorem ws_X5_set : Cond.selects RX5 yX5_set yX5_set ∈ UW := wV 15 (by decide +kernel) (by decide +kernel)
theorem ws_X5_isPipe : Cond.selects RX5 yX5_isPipe yX5_isPipe ∈ UW := wV 16 (by decide +kernel) (by decide +kernel)
theorem ws_X5_pi : Cond.selects RX5 yX5_pi yX5_pi ∈ UW := wV 17 (by decide +kernel) (by decide +kernel)
theorem ws_X5_pour : Cond.selects RX5 yX5_pour yX5_pour ∈ UW := wV 18 (by decide +kernel) (by decide +kernel)
theorem ws_X5_debt : Cond.selects RX5 yX5_debt yX5_debt ∈ UW := wV 19 (by decide +kernel) (by decide +kernel)
theorem ws_X5_daysOn : Cond.selects RX5 yX5_daysOn yX5_daysOn ∈ UW := wV 20 (by decide +kernel) (by decide +kernel)
theorem ws_X5_dayOn : Cond.selects RX5 yX5_dayOn yX5_dayOn ∈ UW := wV 21 (by decide +kernel) (by decide +kernel)
theorem ws_X5_even : Cond.selects RX5 yX5_even yX5_even ∈ UW := wV 22 (by decide +kernel) (by decide +kernel)
theorem ws_X5_counted : Cond.selects RX5 yX5_counted yX5_counted ∈ UW := wV 23 (by decide +kernel) (by decide +kernel)
theorem ws_X5_all : Cond.selects RX5 yX5_all yX5_all ∈ UW := wV 24 (by decide +kernel) (by decide +kernel)
theorem ws_X5_kept : Cond.selects RX5 yX5_kept yX5_kept ∈ UW := wV 25 (by decide +kernel) (by decide +kernel)
theorem ws_X5_bringBack : Cond.selects RX5 yX5_bringBack yX5_bringBack ∈ UW := wV 26 (by decide +kernel) (by decide +kernel)
theorem inU_X0 : ∀ w ∈ u_ws RX0 TX0 10, w ∈ UW := by
  intro w h
  obtain ⟨k, hk, rfl⟩ := List.mem_map.mp h
  have hk2 := List.mem_range.mp hk
  match k, hk2 with
  | 0, _ => exact wl_X0_roof
  | 1, _ => exact wl_X0_holds
  | 2, _ => exact wl_X0_water
  | 3, _ => exact wl_X0_people
  | 4, _ => exact wl_X0_garden
  | 5, _ => exact wl_X0_clogged
  | 6, _ => exact wl_X0_next
  | 7, _ => exact wl_X0_thirst
  | 8, _ => exact wl_X0_watered
  | 9, _ => exact wl_X0_thirstyDays
  | k + 10, hk2 => omega
theorem inU_X1 : ∀ w ∈ u_ws RX1 TX1 6, w ∈ UW := by
  intro w h
  obtain ⟨k, hk, rfl⟩ := List.mem_map.mp h
  have hk2 := List.mem_range.mp hk
  match k, hk2 with
  | 0, _ => exact wl_X1_a
  | 1, _ => exact wl_X1_b
  | 2, _ => exact wl_X1_lets
  | 3, _ => exact wl_X1_isOpen
  | 4, _ => exact wl_X1_through
  | 5, _ => exact wl_X1_toB
  | k + 6, hk2 => omega
theorem inU_X2 : ∀ w ∈ u_ws RX2 TX2 10, w ∈ UW := by
  intro w h
  obtain ⟨k, hk, rfl⟩ := List.mem_map.mp h
  have hk2 := List.mem_range.mp hk
  match k, hk2 with
  | 0, _ => exact wl_X2_weather
  | 1, _ => exact wl_X2_houses
  | 2, _ => exact wl_X2_pipes
  | 3, _ => exact wl_X2_houseCount
  | 4, _ => exact wl_X2_pipeCount
  | 5, _ => exact wl_X2_day
  | 6, _ => exact wl_X2_fromRoofs
  | 7, _ => exact wl_X2_lost
  | 8, _ => exact wl_X2_drunk
  | 9, _ => exact wl_X2_carted
  | k + 10, hk2 => omega
theorem inU_X3 : ∀ w ∈ u_ws RX3 TX3 2, w ∈ UW := by
  intro w h
  obtain ⟨k, hk, rfl⟩ := List.mem_map.mp h
  have hk2 := List.mem_range.mp hk
  match k, hk2 with
  | 0, _ => exact wl_X3_rain
  | 1, _ => exact wl_X3_leaves
  | k + 2, hk2 => omega
theorem inU_X4 : ∀ w ∈ u_ws RX4 TX4 3, w ∈ UW := by
  intro w h
  obtain ⟨k, hk, rfl⟩ := List.mem_map.mp h
  have hk2 := List.mem_range.mp hk
  match k, hk2 with
  | 0, _ => exact wl_X4_weather
  | 1, _ => exact wl_X4_village
  | 2, _ => exact wl_X4_trial
  | k + 3, hk2 => omega
theorem inU_X5 : ∀ w ∈ u_ws RX5 TX5 9, w ∈ UW := by
  intro w h
  obtain ⟨k, hk, rfl⟩ := List.mem_map.mp h
  have hk2 := List.mem_range.mp hk
  match k, hk2 with
  | 0, _ => exact wl_X5_thrown
  | 1, _ => exact wl_X5_rain
  | 2, _ => exact wl_X5_leaves
  | 3, _ => exact wl_X5_houses
  | 4, _ => exact wl_X5_pipes
  | 5, _ => exact wl_X5_village
  | 6, _ => exact wl_X5_laid
  | 7, _ => exact wl_X5_from
  | 8, _ => exact wl_X5_numbers
  | k + 9, hk2 => omega
end
section
/-! what else a throwing or making method rests on: words that are no good words, statics, texts; it stays as the tables warm and the heap below z0 stays -/
def xDecl : List MethodName := [⟨"java/lang/RuntimeException", "<init>", "()V"⟩, ⟨"java/lang/RuntimeException", "<init>", "(Ljava/lang/String;)V"⟩, ⟨"java/lang/Exception", "<init>", "()V"⟩, ⟨"java/lang/Exception", "<init>", "(Ljava/lang/String;)V"⟩, ⟨"java/lang/Throwable", "<init>", "()V"⟩, ⟨"java/lang/Throwable", "<init>", "(Ljava/lang/String;)V"⟩]
def xCast : List (String × String) := [("[I", "java/lang/Cloneable"), ("java/lang/IndexOutOfBoundsException", "java/lang/IndexOutOfBoundsException"), ("java/lang/IllegalArgumentException", "java/lang/IllegalArgumentException"), ("java/lang/IllegalStateException", "java/lang/IllegalStateException")]
def xNest : List (String × Nat × MethodName × String) := [(RX4, 9, yX3_init, RX4), (RX2, 27, yX0_init, RX4), (RX2, 28, yX1_init, RX4)]
def xText : List (Nat × String) := [(181, "number out of its range"), (185, "argument out of its range"), (190, "not possible now"), (171, "no such house"), (179, "no such pipe")]
def xF (z0 : Nat) (U : State) : Prop :=
  (∀ q ∈ xNest, va_Nw (.methodLinkNest q.1 q.2.1 q.2.2.1 q.2.2.2) U) ∧ (∀ q ∈ xCast, va_Nw (.castable q.1 q.2) U) ∧ (∀ x ∈ xDecl, va_Nw (.declares x) U) ∧
  (va_AO RX0 U ∧ va_AO RX1 U ∧ (Cond.arrayOver (.array .int)).before #[] U = true) ∧
  (∀ q ∈ xText, ∃ a, vk_R RX4 q.1 q.2 a U) ∧
  vx_Zq Bundle.tN "UNASSIGNED_STACK" Bundle.steD (fun q => z0 ≤ q) U U.heap ∧ vx_Zq Bundle.tN "SUPPRESSED_SENTINEL" Bundle.listD (fun q => z0 ≤ q) U U.heap
theorem xF.next {z0 : Nat} {s U : State} (hW : s.WarmedH U.vm) (hq : ∀ a : Nat, a < s.heap.size → ¬ z0 ≤ a → U.heap[a]? = s.heap[a]?) (h : xF z0 s) : xF z0 U := by
  obtain ⟨h1, h2, h3, ⟨h4, h5, h6⟩, h7, h8, h9⟩ := h
  exact ⟨fun q hm => va_Nw.warmM hW (h1 q hm), fun q hm => va_Nw.warmC hW (h2 q hm), fun x hm => va_Nw.warmD hW (h3 x hm), ⟨va_AO.moved hW.alike h4, va_AO.moved hW.alike h5, over_moved hW.alike h6⟩,
    fun q hm => by obtain ⟨a, ha⟩ := h7 q hm; exact ⟨a, vk_R.warm hW ha⟩, (vx_Zq.moved hW.alike h8).kept hq, (vx_Zq.moved hW.alike h9).kept hq⟩
theorem xF.calling {z0 : Nat} {U : State} {g : JFrame} {mk : MethodId} {a : Array Value} (h : xF z0 U) : xF z0 (U.calling g mk a) := xF.next (State.WarmedH.refl U) (fun _ _ _ => rfl) h
end
section

/-! the V layer: locals by place, the world a function from an index to a cell -/
/-- the world as a list -/
def wl (n : Nat) (ad : Nat → Nat) (g : Nat → va_E) : va_W := (List.range n).map (fun k => (ad k, g k))
def vAt (n : Nat) (g : Nat → va_E) (k : Nat) (e : va_E) : Prop := k < n ∧ g k = e
theorem vAt.up {n : Nat} {g : Nat → va_E} {k : Nat} {e e' : va_E} (h : vAt n g k e) : vAt n (va_up g k e') k e' := ⟨h.1, va_up_self _ _ _⟩
theorem vAt.ne {n : Nat} {g : Nat → va_E} {k j : Nat} {e e' : va_E} (h : vAt n g k e) (hj : k ≠ j) : vAt n (va_up g j e') k e := ⟨h.1, (va_up_ne _ _ hj).trans h.2⟩
theorem va_up_up {α : Type} (f : Nat → α) (k : Nat) (v w : α) : va_up (va_up f k v) k w = va_up f k w := by
  funext j
  simp only [va_up]
  split <;> rfl
theorem va_up_comm {α : Type} (f : Nat → α) {k j : Nat} (v w : α) (h : k ≠ j) : va_up (va_up f k v) j w = va_up (va_up f j w) k v := by
  funext i
  simp only [va_up]
  by_cases h1 : i = k
  · rw [if_pos h1, if_pos h1, if_neg (by rw [h1]; exact h)]
  · rw [if_neg h1, if_neg h1]
theorem va_up_eta {α : Type} (f : Nat → α) (k : Nat) (v : α) (h : f k = v) : va_up f k v = f := by
  funext j
  simp only [va_up]
  split
  · rename_i q; rw [q, h]
  · rfl
theorem wl_get {n k : Nat} {ad : Nat → Nat} {g : Nat → va_E} (h : k < n) : (wl n ad g)[k]? = some (ad k, g k) := by
  unfold wl
  rw [List.getElem?_map, List.getElem?_range h]
  rfl
theorem wl_at {n k : Nat} {ad : Nat → Nat} {g : Nat → va_E} {e : va_E} (h : vAt n g k e) : (wl n ad g)[k]? = some (ad k, e) := by
  rw [wl_get h.1, h.2]
theorem wl_set {n k : Nat} {ad : Nat → Nat} {g : Nat → va_E} {e : va_E} (h : k < n) : (wl n ad g).set k (ad k, e) = wl n ad (va_up g k e) := by
  apply List.ext_getElem?
  intro j
  by_cases hj : j = k
  · subst hj
    rw [List.getElem?_set_self (by simp [wl, h]), wl_get h, va_up_self]
  · rw [List.getElem?_set_ne (Ne.symm hj)]
    by_cases hn : j < n
    · rw [wl_get hn, wl_get hn, va_up_ne _ _ hj]
    · rw [List.getElem?_eq_none (by simp [wl]; omega), List.getElem?_eq_none (by simp [wl]; omega)]
theorem wl_push {n q : Nat} {ad : Nat → Nat} {g : Nat → va_E} {e : va_E} : wl n ad g ++ [(q, e)] = wl (n + 1) (va_up ad n q) (va_up g n e) := by
  unfold wl
  rw [List.range_succ, List.map_append]
  congr 1
  · apply List.map_congr_left
    intro k hk
    have hk' := List.mem_range.mp hk
    rw [va_up_ne _ _ (by omega), va_up_ne _ _ (by omega)]
  · simp [va_up_self]
theorem wl_cut {D : va_G} {n n' : Nat} {ad ad' : Nat → Nat} {g g' : Nat → va_E} {H : Heap} (h : va_P D vwCl (wl n ad g) H) (hn : n' ≤ n) (ha : ∀ k, k < n' → ad' k = ad k) (hg : ∀ k, k < n' → g' k = g k) : va_P D vwCl (wl n' ad' g') H := by
  intro k q hk
  have hk' : k < n' := by
    rcases Nat.lt_or_ge k n' with h1 | h1
    · exact h1
    · rw [List.getElem?_eq_none (by simp [wl]; omega)] at hk; cases hk
  rw [wl_get hk'] at hk
  cases hk
  rw [ha k hk', hg k hk']
  exact h k _ (wl_get (by omega))
theorem wl_cutD {A : Nat → Prop} {n n' : Nat} {ad ad' : Nat → Nat} {g g' : Nat → va_E} (h : va_D A (wl n ad g)) (hn : n' ≤ n) (ha : ∀ k, k < n' → ad' k = ad k) : va_D A (wl n' ad' g') := by
  have key : ∀ (k : Nat) (q : Nat × va_E), (wl n' ad' g')[k]? = some q → ∃ e, (wl n ad g)[k]? = some (q.1, e) := by
    intro k q hk
    have hk' : k < n' := by
      rcases Nat.lt_or_ge k n' with h1 | h1
      · exact h1
      · rw [List.getElem?_eq_none (by simp [wl]; omega)] at hk; cases hk
    rw [wl_get hk'] at hk
    cases hk
    exact ⟨g k, by rw [ha k hk']; exact wl_get (by omega)⟩
  refine ⟨fun i j x y hi hj hxy => ?_, fun k q hk => ?_⟩
  · obtain ⟨e1, h1⟩ := key i x hi
    obtain ⟨e2, h2⟩ := key j y hj
    exact h.1 i j _ _ h1 h2 hxy
  · obtain ⟨e1, h1⟩ := key k q hk
    exact h.2 k (q.1, e1) h1
/-- the arrays' classes -/
def tysV (cy : Nat → ClassId) : List (ClassId × FieldType) := [(cy 0, .int), (cy 1, .long), (cy 2, .object RX0), (cy 3, .object RX1), (cy 4, .array .int)]
/-! locals by place -/
def prs : Nat → List (Option Value) → List (Nat × Value)
  | _, [] => []
  | i, some v :: t => (i, v) :: prs (i + 1) t
  | i, none :: t => prs (i + 1) t
theorem prs_mem : ∀ (L : List (Option Value)) (i j : Nat) (v : Value), (j, v) ∈ prs i L ↔ ∃ k, j = i + k ∧ L[k]? = some (some v)
  | [], i, j, v => by simp [prs]
  | some u :: t, i, j, v => by
    rw [prs, List.mem_cons, prs_mem t (i + 1) j v]
    constructor
    · rintro (h | ⟨k, h1, h2⟩)
      · cases h; exact ⟨0, rfl, rfl⟩
      · exact ⟨k + 1, by omega, h2⟩
    · rintro ⟨k, h1, h2⟩
      cases k with
      | zero =>
        rw [List.getElem?_cons_zero] at h2
        cases h2
        exact Or.inl (by rw [h1]; rfl)
      | succ k => exact Or.inr ⟨k, by omega, h2⟩
  | none :: t, i, j, v => by
    rw [prs, prs_mem t (i + 1) j v]
    constructor
    · rintro ⟨k, h1, h2⟩
      exact ⟨k + 1, by omega, h2⟩
    · rintro ⟨k, h1, h2⟩
      cases k with
      | zero =>
        rw [List.getElem?_cons_zero] at h2
        cases h2
      | succ k => exact ⟨k, by omega, h2⟩
def hasL (ls : Array Slot) (nL : Nat) (L : List (Option Value)) : Prop := ls.size = nL ∧ lv_wf ls ∧ ∀ (i : Nat) (v : Value), L[i]? = some (some v) → ls[i]? = some (.val v)
theorem hasL.at {ls : Array Slot} {nL : Nat} {L : List (Option Value)} (h : hasL ls nL L) {i : Nat} {v : Value} (hk : L[i]? = some (some v)) : ls[i]? = some (.val v) := h.2.2 i v hk
theorem hasL.lv {ls : Array Slot} {nL : Nat} {L : List (Option Value)} (h : hasL ls nL L) : lv_has ls nL (prs 0 L) := by
  refine ⟨h.1, h.2.1, fun q hq => ?_⟩
  obtain ⟨k, h1, h2⟩ := (prs_mem L 0 q.1 q.2).mp hq
  rw [h1, Nat.zero_add]
  exact h.2.2 k _ h2
/-- the place before holds no long -/
def noL (L : List (Option Value)) : Nat → Bool
  | 0 => true
  | i + 1 => match L[i]? with
    | some (some v) => v.category != 2
    | _ => true
theorem hasL.st1 {ls : Array Slot} {nL i : Nat} {v : Value} {L : List (Option Value)} (hp : noL L i = true) (hi : i < L.length) (h : lv_has ls nL ((i, v) :: (prs 0 L).filter (fun q => !(q.1 == i) && !(q.1 + 1 == i && q.2.category == 2)))) : hasL ls nL (L.set i (some v)) := by
  refine ⟨h.1, h.2.1, fun j w hj => ?_⟩
  by_cases hji : j = i
  · subst hji
    rw [List.getElem?_set_self hi] at hj
    cases hj
    exact h.2.2 (j, v) List.mem_cons_self
  · rw [List.getElem?_set_ne (Ne.symm hji)] at hj
    refine h.2.2 (j, w) (List.mem_cons_of_mem _ (List.mem_filter.mpr ⟨(prs_mem L 0 j w).mpr ⟨j, by omega, hj⟩, ?_⟩))
    by_cases h2 : j + 1 = i
    · subst h2
      simp only [noL, hj] at hp
      simp only [bne_iff_ne, ne_eq] at hp
      simp [hp]
    · simp [hji, h2]
theorem hasL.st2 {ls : Array Slot} {nL i : Nat} {v : Value} {L : List (Option Value)} (hp : noL L i = true) (hi : i + 1 < L.length) (h : lv_has ls nL ((i, v) :: (prs 0 L).filter (fun q => !(q.1 == i) && (!(q.1 == i + 1) && !(q.1 + 1 == i && q.2.category == 2))))) : hasL ls nL ((L.set i (some v)).set (i + 1) none) := by
  refine ⟨h.1, h.2.1, fun j w hj => ?_⟩
  by_cases hj1 : j = i + 1
  · subst hj1
    rw [List.getElem?_set_self (by rw [List.length_set]; exact hi)] at hj
    cases hj
  rw [List.getElem?_set_ne (Ne.symm hj1)] at hj
  by_cases hji : j = i
  · subst hji
    rw [List.getElem?_set_self (by omega)] at hj
    cases hj
    exact h.2.2 (j, v) List.mem_cons_self
  · rw [List.getElem?_set_ne (Ne.symm hji)] at hj
    refine h.2.2 (j, w) (List.mem_cons_of_mem _ (List.mem_filter.mpr ⟨(prs_mem L 0 j w).mpr ⟨j, by omega, hj⟩, ?_⟩))
    by_cases h2 : j + 1 = i
    · subst h2
      simp only [noL, hj] at hp
      simp only [bne_iff_ne, ne_eq] at hp
      simp [hp]
      omega
    · simp [hji, hj1, h2]
/-- fewer places known -/
def leL : List (Option Value) → List (Option Value) → Prop
  | [], _ => True
  | none :: a, _ :: b => leL a b
  | some v :: a, x :: b => x = some v ∧ leL a b
  | none :: a, [] => leL a []
  | some _ :: _, [] => False
theorem leL.at : ∀ {A B : List (Option Value)} (_ : leL A B) (i : Nat) (v : Value), A[i]? = some (some v) → B[i]? = some (some v)
  | [], _, _, i, v, h => by simp at h
  | none :: a, x :: b, hl, i, v, h => by
    cases i with
    | zero => rw [List.getElem?_cons_zero] at h; cases h
    | succ i => exact leL.at (A := a) (B := b) hl i v h
  | some u :: a, x :: b, hl, i, v, h => by
    cases i with
    | zero => rw [List.getElem?_cons_zero] at h; cases h; rw [hl.1]; rfl
    | succ i => exact leL.at (A := a) (B := b) hl.2 i v h
  | none :: a, [], hl, i, v, h => by
    cases i with
    | zero => rw [List.getElem?_cons_zero] at h; cases h
    | succ i =>
      have := leL.at (A := a) (B := []) hl i v h
      simp at this
theorem hasL.le {ls : Array Slot} {nL : Nat} {A B : List (Option Value)} (hl : leL A B) (h : hasL ls nL B) : hasL ls nL A := ⟨h.1, h.2.1, fun i v q => h.2.2 i v (hl.at i v q)⟩
def argsL : List Value → List (Option Value)
  | [] => []
  | v :: vs => if v.category = 2 then some v :: none :: argsL vs else some v :: argsL vs
theorem argsL_at : ∀ (vs : List Value) (i j : Nat) (v : Value), (argsL vs)[j]? = some (some v) → (i + j, v) ∈ lv_args i vs
  | [], _, _, _, h => by simp [argsL] at h
  | u :: vs, i, j, v, h => by
    unfold argsL at h
    rw [lv_args]
    by_cases hc : u.category = 2
    · rw [if_pos hc] at h ⊢
      match j, h with
      | 0, h => rw [List.getElem?_cons_zero] at h; cases h; exact List.mem_cons_self
      | 1, h => simp at h
      | j + 2, h =>
        have h1 : (argsL vs)[j]? = some (some v) := by simpa using h
        have := argsL_at vs (i + 2) j v h1
        rw [show i + (j + 2) = i + 2 + j by omega]
        exact List.mem_cons_of_mem _ this
    · rw [if_neg hc] at h ⊢
      match j, h with
      | 0, h => rw [List.getElem?_cons_zero] at h; cases h; exact List.mem_cons_self
      | j + 1, h =>
        have h1 : (argsL vs)[j]? = some (some v) := by simpa using h
        have := argsL_at vs (i + 1) j v h1
        rw [show i + (j + 1) = i + 1 + j by omega]
        exact List.mem_cons_of_mem _ this
theorem hasL_entry {vs : List Value} {n k : Nat} {L : List (Option Value)} (h : (lg_sl vs).length ≤ n) (hL : argsL vs ++ List.replicate k none = L) : hasL ((lg_sl vs ++ List.replicate (n - (lg_sl vs).length) Slot.unset).toArray) n L := by
  have h0 := lv_entry vs h
  refine ⟨h0.1, h0.2.1, fun i v hi => ?_⟩
  subst hL
  rcases Nat.lt_or_ge i (argsL vs).length with hl | hl
  · rw [List.getElem?_append_left hl] at hi
    have := argsL_at vs 0 i v hi
    rw [Nat.zero_add] at this
    exact h0.2.2 (i, v) this
  · rw [List.getElem?_append_right hl, List.getElem?_replicate] at hi
    split at hi <;> cases hi
/-! the judgement -/
section VJ
variable {p : Program} {l : Launch} {e : Env} {R : Room} {s : State} {m : MethodId} {args : Array Value} {below : List Frame} {meth : Method} {c : Code} {cells slots : Nat} {Q : State → Prop}
variable {cc : ByteArray} {own : String} {nL z0 n pc : Nat} {D : va_G} {cy : Nat → ClassId} {ad : Nat → Nat} {g : Nat → va_E} {L : List (Option Value)} {st : List Value}
/-- what a body rests on -/
def vCx (p : Program) (s : State) (m : MethodId) (args : Array Value) (c : Code) (cc : ByteArray) (own : String) (nL z0 : Nat) (D : va_G) (cy : Nat → ClassId) : Prop := p.tables.exec = Jvm.exec ∧ c.code = cc ∧ c.maxLocals = nL ∧ s.vm.findClass own = some m.cls ∧ (∀ w ∈ UW, w.before args s = true) ∧ va_K D vwCl (tysV cy) s ∧ z0 ≤ s.heap.size ∧ xF z0 s
def vV (p : Program) (l : Launch) (e : Env) (R : Room) (s : State) (m : MethodId) (args : Array Value) (below : List Frame) (meth : Method) (c : Code) (nL z0 : Nat) (D : va_G) (cells slots : Nat) (Q : State → Prop) (n : Nat) (ad : Nat → Nat) (g : Nat → va_E) (pc : Nat) (L : List (Option Value)) (st : List Value) : Prop :=
  ∀ (H : Heap) (locs : List Loc) (ls : Array Slot), va_S (fun q => z0 ≤ q) s.heap H locs → va_P D vwCl (wl n ad g) H → va_D (fun q => z0 ≤ q) (wl n ad g) → hasL ls nL L → W p l e R s m args below meth c H locs cells slots Q (F0 m pc ls st)
theorem vV.le {A : List (Option Value)} (hl : leL A L) (k : vV p l e R s m args below meth c nL z0 D cells slots Q n ad g pc A st) : vV p l e R s m args below meth c nL z0 D cells slots Q n ad g pc L st := fun H locs ls hS hP hD h => k H locs ls hS hP hD (h.le hl)
theorem vV.wd {k n' : Nat} (h1 : cells ≤ k) (h2 : slots ≤ n') (kk : vV p l e R s m args below meth c nL z0 D k n' Q n ad g pc L st) : vV p l e R s m args below meth c nL z0 D cells slots Q n ad g pc L st := fun H locs ls hS hP hD h => W.widen h1 h2 (kk H locs ls hS hP hD h)
theorem vV.gg {g' : Nat → va_E} (hg : g = g') (k : vV p l e R s m args below meth c nL z0 D cells slots Q n ad g' pc L st) : vV p l e R s m args below meth c nL z0 D cells slots Q n ad g pc L st := hg ▸ k
theorem vV.cut {n' : Nat} {ad' : Nat → Nat} {g' : Nat → va_E} (hn : n' ≤ n) (ha : ∀ k, k < n' → ad' k = ad k) (hg : ∀ k, k < n' → g' k = g k) (k : vV p l e R s m args below meth c nL z0 D cells slots Q n' ad' g' pc L st) : vV p l e R s m args below meth c nL z0 D cells slots Q n ad g pc L st := fun H locs ls hS hP hD h => k H locs ls hS (wl_cut hP hn ha hg) (wl_cutD hD hn ha) h
theorem vV.top {v w : Value} (h : v = w) (k : vV p l e R s m args below meth c nL z0 D cells slots Q n ad g pc L (w :: st)) : vV p l e R s m args below meth c nL z0 D cells slots Q n ad g pc L (v :: st) := h ▸ k
theorem vV.eqn {pc' : Nat} {L' : List (Option Value)} {st' : List Value} (k : vV p l e R s m args below meth c nL z0 D cells slots Q n ad g pc' L' st') (h1 : pc = pc') (h2 : L = L') (h3 : st = st') : vV p l e R s m args below meth c nL z0 D cells slots Q n ad g pc L st := h1 ▸ h2 ▸ h3 ▸ k

theorem v_iconst (X : vCx p s m args c cc own nL z0 D cy) {z : Int} (d : decode cc pc = .ok (.iconst z, 1))  (k : vV p l e R s m args below meth c nL z0 D cells slots Q n ad g (pc + 1) L (.int (Int32.ofInt z) :: st)) : vV p l e R s m args below meth c nL z0 D cells slots Q n ad g pc L st := fun H locs ls hS hP hD hl => lv_iconst X.1 X.2.1 d rfl (k H locs ls hS hP hD hl)
theorem v_bipush (X : vCx p s m args c cc own nL z0 D cy) {z : Int} (d : decode cc pc = .ok (.bipush z, 2))  (k : vV p l e R s m args below meth c nL z0 D cells slots Q n ad g (pc + 2) L (.int (Int8.ofInt z).toInt32 :: st)) : vV p l e R s m args below meth c nL z0 D cells slots Q n ad g pc L st := fun H locs ls hS hP hD hl => lv_bipush X.1 X.2.1 d rfl (k H locs ls hS hP hD hl)
theorem v_sipush (X : vCx p s m args c cc own nL z0 D cy) {z : Int} (d : decode cc pc = .ok (.sipush z, 3))  (k : vV p l e R s m args below meth c nL z0 D cells slots Q n ad g (pc + 3) L (.int (Int16.ofInt z).toInt32 :: st)) : vV p l e R s m args below meth c nL z0 D cells slots Q n ad g pc L st := fun H locs ls hS hP hD hl => lv_sipush X.1 X.2.1 d rfl (k H locs ls hS hP hD hl)
theorem v_bip {v : Int32} (X : vCx p s m args c cc own nL z0 D cy) {z : Int} (d : decode cc pc = .ok (.bipush z, 2)) (hv : (Int8.ofInt z).toInt32 = v) (k : vV p l e R s m args below meth c nL z0 D cells slots Q n ad g (pc + 2) L (.int v :: st)) : vV p l e R s m args below meth c nL z0 D cells slots Q n ad g pc L st := fun H locs ls hS hP hD hl => lv_bipush X.1 X.2.1 d hv (k H locs ls hS hP hD hl)
theorem v_sip {v : Int32} (X : vCx p s m args c cc own nL z0 D cy) {z : Int} (d : decode cc pc = .ok (.sipush z, 3)) (hv : (Int16.ofInt z).toInt32 = v) (k : vV p l e R s m args below meth c nL z0 D cells slots Q n ad g (pc + 3) L (.int v :: st)) : vV p l e R s m args below meth c nL z0 D cells slots Q n ad g pc L st := fun H locs ls hS hP hD hl => lv_sipush X.1 X.2.1 d hv (k H locs ls hS hP hD hl)
theorem v_ico {v : Int32} (X : vCx p s m args c cc own nL z0 D cy) {z : Int} (d : decode cc pc = .ok (.iconst z, 1)) (hv : Int32.ofInt z = v) (k : vV p l e R s m args below meth c nL z0 D cells slots Q n ad g (pc + 1) L (.int v :: st)) : vV p l e R s m args below meth c nL z0 D cells slots Q n ad g pc L st := fun H locs ls hS hP hD hl => lv_iconst X.1 X.2.1 d hv (k H locs ls hS hP hD hl)
theorem v_lco {v : Int64} (X : vCx p s m args c cc own nL z0 D cy) {z : Fin 2} (d : decode cc pc = .ok (.lconst z, 1)) (hv : Int64.ofNat (z : Nat) = v) (k : vV p l e R s m args below meth c nL z0 D cells slots Q n ad g (pc + 1) L (.long v :: st)) : vV p l e R s m args below meth c nL z0 D cells slots Q n ad g pc L st := fun H locs ls hS hP hD hl => lv_lconst X.1 X.2.1 d hv (k H locs ls hS hP hD hl)
theorem v_iload0 (X : vCx p s m args c cc own nL z0 D cy) {x : Int32} (d : decode cc pc = .ok (.iload_n 0, 1)) (hx : L[0]? = some (some (.int x))) (k : vV p l e R s m args below meth c nL z0 D cells slots Q n ad g (pc + 1) L (.int x :: st)) : vV p l e R s m args below meth c nL z0 D cells slots Q n ad g pc L st := fun H locs ls hS hP hD hl => lv_iload_n X.1 X.2.1 d rfl (hl.at hx) (k H locs ls hS hP hD hl)
theorem v_iload1 (X : vCx p s m args c cc own nL z0 D cy) {x : Int32} (d : decode cc pc = .ok (.iload_n 1, 1)) (hx : L[1]? = some (some (.int x))) (k : vV p l e R s m args below meth c nL z0 D cells slots Q n ad g (pc + 1) L (.int x :: st)) : vV p l e R s m args below meth c nL z0 D cells slots Q n ad g pc L st := fun H locs ls hS hP hD hl => lv_iload_n X.1 X.2.1 d rfl (hl.at hx) (k H locs ls hS hP hD hl)
theorem v_iload2 (X : vCx p s m args c cc own nL z0 D cy) {x : Int32} (d : decode cc pc = .ok (.iload_n 2, 1)) (hx : L[2]? = some (some (.int x))) (k : vV p l e R s m args below meth c nL z0 D cells slots Q n ad g (pc + 1) L (.int x :: st)) : vV p l e R s m args below meth c nL z0 D cells slots Q n ad g pc L st := fun H locs ls hS hP hD hl => lv_iload_n X.1 X.2.1 d rfl (hl.at hx) (k H locs ls hS hP hD hl)
theorem v_iload3 (X : vCx p s m args c cc own nL z0 D cy) {x : Int32} (d : decode cc pc = .ok (.iload_n 3, 1)) (hx : L[3]? = some (some (.int x))) (k : vV p l e R s m args below meth c nL z0 D cells slots Q n ad g (pc + 1) L (.int x :: st)) : vV p l e R s m args below meth c nL z0 D cells slots Q n ad g pc L st := fun H locs ls hS hP hD hl => lv_iload_n X.1 X.2.1 d rfl (hl.at hx) (k H locs ls hS hP hD hl)
theorem v_iload (X : vCx p s m args c cc own nL z0 D cy) {i : Nat} {x : Int32} (d : decode cc pc = .ok (.iload i, 2)) (hx : L[i]? = some (some (.int x))) (k : vV p l e R s m args below meth c nL z0 D cells slots Q n ad g (pc + 2) L (.int x :: st)) : vV p l e R s m args below meth c nL z0 D cells slots Q n ad g pc L st := fun H locs ls hS hP hD hl => lv_iload X.1 X.2.1 d (hl.at hx) (k H locs ls hS hP hD hl)
theorem v_aload0 (X : vCx p s m args c cc own nL z0 D cy) {x : Nat} (d : decode cc pc = .ok (.aload_n 0, 1)) (hx : L[0]? = some (some (.ref x))) (k : vV p l e R s m args below meth c nL z0 D cells slots Q n ad g (pc + 1) L (.ref x :: st)) : vV p l e R s m args below meth c nL z0 D cells slots Q n ad g pc L st := fun H locs ls hS hP hD hl => lv_aload_n X.1 X.2.1 d rfl (hl.at hx) (k H locs ls hS hP hD hl)
theorem v_aload1 (X : vCx p s m args c cc own nL z0 D cy) {x : Nat} (d : decode cc pc = .ok (.aload_n 1, 1)) (hx : L[1]? = some (some (.ref x))) (k : vV p l e R s m args below meth c nL z0 D cells slots Q n ad g (pc + 1) L (.ref x :: st)) : vV p l e R s m args below meth c nL z0 D cells slots Q n ad g pc L st := fun H locs ls hS hP hD hl => lv_aload_n X.1 X.2.1 d rfl (hl.at hx) (k H locs ls hS hP hD hl)
theorem v_aload2 (X : vCx p s m args c cc own nL z0 D cy) {x : Nat} (d : decode cc pc = .ok (.aload_n 2, 1)) (hx : L[2]? = some (some (.ref x))) (k : vV p l e R s m args below meth c nL z0 D cells slots Q n ad g (pc + 1) L (.ref x :: st)) : vV p l e R s m args below meth c nL z0 D cells slots Q n ad g pc L st := fun H locs ls hS hP hD hl => lv_aload_n X.1 X.2.1 d rfl (hl.at hx) (k H locs ls hS hP hD hl)
theorem v_aload3 (X : vCx p s m args c cc own nL z0 D cy) {x : Nat} (d : decode cc pc = .ok (.aload_n 3, 1)) (hx : L[3]? = some (some (.ref x))) (k : vV p l e R s m args below meth c nL z0 D cells slots Q n ad g (pc + 1) L (.ref x :: st)) : vV p l e R s m args below meth c nL z0 D cells slots Q n ad g pc L st := fun H locs ls hS hP hD hl => lv_aload_n X.1 X.2.1 d rfl (hl.at hx) (k H locs ls hS hP hD hl)
theorem v_aload (X : vCx p s m args c cc own nL z0 D cy) {i : Nat} {x : Nat} (d : decode cc pc = .ok (.aload i, 2)) (hx : L[i]? = some (some (.ref x))) (k : vV p l e R s m args below meth c nL z0 D cells slots Q n ad g (pc + 2) L (.ref x :: st)) : vV p l e R s m args below meth c nL z0 D cells slots Q n ad g pc L st := fun H locs ls hS hP hD hl => lv_aload X.1 X.2.1 d (hl.at hx) (k H locs ls hS hP hD hl)
theorem v_lload0 (X : vCx p s m args c cc own nL z0 D cy) {x : Int64} (d : decode cc pc = .ok (.lload_n 0, 1)) (hx : L[0]? = some (some (.long x))) (k : vV p l e R s m args below meth c nL z0 D cells slots Q n ad g (pc + 1) L (.long x :: st)) : vV p l e R s m args below meth c nL z0 D cells slots Q n ad g pc L st := fun H locs ls hS hP hD hl => lv_lload_n X.1 X.2.1 d rfl (hl.at hx) (k H locs ls hS hP hD hl)
theorem v_lload1 (X : vCx p s m args c cc own nL z0 D cy) {x : Int64} (d : decode cc pc = .ok (.lload_n 1, 1)) (hx : L[1]? = some (some (.long x))) (k : vV p l e R s m args below meth c nL z0 D cells slots Q n ad g (pc + 1) L (.long x :: st)) : vV p l e R s m args below meth c nL z0 D cells slots Q n ad g pc L st := fun H locs ls hS hP hD hl => lv_lload_n X.1 X.2.1 d rfl (hl.at hx) (k H locs ls hS hP hD hl)
theorem v_lload2 (X : vCx p s m args c cc own nL z0 D cy) {x : Int64} (d : decode cc pc = .ok (.lload_n 2, 1)) (hx : L[2]? = some (some (.long x))) (k : vV p l e R s m args below meth c nL z0 D cells slots Q n ad g (pc + 1) L (.long x :: st)) : vV p l e R s m args below meth c nL z0 D cells slots Q n ad g pc L st := fun H locs ls hS hP hD hl => lv_lload_n X.1 X.2.1 d rfl (hl.at hx) (k H locs ls hS hP hD hl)
theorem v_lload3 (X : vCx p s m args c cc own nL z0 D cy) {x : Int64} (d : decode cc pc = .ok (.lload_n 3, 1)) (hx : L[3]? = some (some (.long x))) (k : vV p l e R s m args below meth c nL z0 D cells slots Q n ad g (pc + 1) L (.long x :: st)) : vV p l e R s m args below meth c nL z0 D cells slots Q n ad g pc L st := fun H locs ls hS hP hD hl => lv_lload_n X.1 X.2.1 d rfl (hl.at hx) (k H locs ls hS hP hD hl)
theorem v_lload (X : vCx p s m args c cc own nL z0 D cy) {i : Nat} {x : Int64} (d : decode cc pc = .ok (.lload i, 2)) (hx : L[i]? = some (some (.long x))) (k : vV p l e R s m args below meth c nL z0 D cells slots Q n ad g (pc + 2) L (.long x :: st)) : vV p l e R s m args below meth c nL z0 D cells slots Q n ad g pc L st := fun H locs ls hS hP hD hl => lv_lload X.1 X.2.1 d (hl.at hx) (k H locs ls hS hP hD hl)
theorem v_dload0 (X : vCx p s m args c cc own nL z0 D cy) {x : UInt64} (d : decode cc pc = .ok (.dload_n 0, 1)) (hx : L[0]? = some (some (.double x))) (k : vV p l e R s m args below meth c nL z0 D cells slots Q n ad g (pc + 1) L (.double x :: st)) : vV p l e R s m args below meth c nL z0 D cells slots Q n ad g pc L st := fun H locs ls hS hP hD hl => lv_dload_n X.1 X.2.1 d rfl (hl.at hx) (k H locs ls hS hP hD hl)
theorem v_dload1 (X : vCx p s m args c cc own nL z0 D cy) {x : UInt64} (d : decode cc pc = .ok (.dload_n 1, 1)) (hx : L[1]? = some (some (.double x))) (k : vV p l e R s m args below meth c nL z0 D cells slots Q n ad g (pc + 1) L (.double x :: st)) : vV p l e R s m args below meth c nL z0 D cells slots Q n ad g pc L st := fun H locs ls hS hP hD hl => lv_dload_n X.1 X.2.1 d rfl (hl.at hx) (k H locs ls hS hP hD hl)
theorem v_dload2 (X : vCx p s m args c cc own nL z0 D cy) {x : UInt64} (d : decode cc pc = .ok (.dload_n 2, 1)) (hx : L[2]? = some (some (.double x))) (k : vV p l e R s m args below meth c nL z0 D cells slots Q n ad g (pc + 1) L (.double x :: st)) : vV p l e R s m args below meth c nL z0 D cells slots Q n ad g pc L st := fun H locs ls hS hP hD hl => lv_dload_n X.1 X.2.1 d rfl (hl.at hx) (k H locs ls hS hP hD hl)
theorem v_dload3 (X : vCx p s m args c cc own nL z0 D cy) {x : UInt64} (d : decode cc pc = .ok (.dload_n 3, 1)) (hx : L[3]? = some (some (.double x))) (k : vV p l e R s m args below meth c nL z0 D cells slots Q n ad g (pc + 1) L (.double x :: st)) : vV p l e R s m args below meth c nL z0 D cells slots Q n ad g pc L st := fun H locs ls hS hP hD hl => lv_dload_n X.1 X.2.1 d rfl (hl.at hx) (k H locs ls hS hP hD hl)
theorem v_dload (X : vCx p s m args c cc own nL z0 D cy) {i : Nat} {x : UInt64} (d : decode cc pc = .ok (.dload i, 2)) (hx : L[i]? = some (some (.double x))) (k : vV p l e R s m args below meth c nL z0 D cells slots Q n ad g (pc + 2) L (.double x :: st)) : vV p l e R s m args below meth c nL z0 D cells slots Q n ad g pc L st := fun H locs ls hS hP hD hl => lv_dload X.1 X.2.1 d (hl.at hx) (k H locs ls hS hP hD hl)
theorem v_istore0 (X : vCx p s m args c cc own nL z0 D cy) {x : Int32} { b : Option Value} {t : List (Option Value)} (hp : noL (b :: t) 0 = true) (hn : 0 < nL) (d : decode cc pc = .ok (.istore_n 0, 1)) (k : vV p l e R s m args below meth c nL z0 D cells slots Q n ad g (pc + 1) (some (.int x) :: t) st) : vV p l e R s m args below meth c nL z0 D cells slots Q n ad g pc (b :: t) (.int x :: st) := fun H locs ls hS hP hD hl => lv_istore_n X.1 X.2.1 d rfl hl.lv hn rfl (fun ls' hl' => k H locs ls' hS hP hD (hasL.st1 hp (by simp) hl'))
theorem v_istore1 (X : vCx p s m args c cc own nL z0 D cy) {x : Int32} {a0 b : Option Value} {t : List (Option Value)} (hp : noL (a0 :: b :: t) 1 = true) (hn : 1 < nL) (d : decode cc pc = .ok (.istore_n 1, 1)) (k : vV p l e R s m args below meth c nL z0 D cells slots Q n ad g (pc + 1) (a0 :: some (.int x) :: t) st) : vV p l e R s m args below meth c nL z0 D cells slots Q n ad g pc (a0 :: b :: t) (.int x :: st) := fun H locs ls hS hP hD hl => lv_istore_n X.1 X.2.1 d rfl hl.lv hn rfl (fun ls' hl' => k H locs ls' hS hP hD (hasL.st1 hp (by simp) hl'))
theorem v_istore2 (X : vCx p s m args c cc own nL z0 D cy) {x : Int32} {a0 a1 b : Option Value} {t : List (Option Value)} (hp : noL (a0 :: a1 :: b :: t) 2 = true) (hn : 2 < nL) (d : decode cc pc = .ok (.istore_n 2, 1)) (k : vV p l e R s m args below meth c nL z0 D cells slots Q n ad g (pc + 1) (a0 :: a1 :: some (.int x) :: t) st) : vV p l e R s m args below meth c nL z0 D cells slots Q n ad g pc (a0 :: a1 :: b :: t) (.int x :: st) := fun H locs ls hS hP hD hl => lv_istore_n X.1 X.2.1 d rfl hl.lv hn rfl (fun ls' hl' => k H locs ls' hS hP hD (hasL.st1 hp (by simp) hl'))
theorem v_istore3 (X : vCx p s m args c cc own nL z0 D cy) {x : Int32} {a0 a1 a2 b : Option Value} {t : List (Option Value)} (hp : noL (a0 :: a1 :: a2 :: b :: t) 3 = true) (hn : 3 < nL) (d : decode cc pc = .ok (.istore_n 3, 1)) (k : vV p l e R s m args below meth c nL z0 D cells slots Q n ad g (pc + 1) (a0 :: a1 :: a2 :: some (.int x) :: t) st) : vV p l e R s m args below meth c nL z0 D cells slots Q n ad g pc (a0 :: a1 :: a2 :: b :: t) (.int x :: st) := fun H locs ls hS hP hD hl => lv_istore_n X.1 X.2.1 d rfl hl.lv hn rfl (fun ls' hl' => k H locs ls' hS hP hD (hasL.st1 hp (by simp) hl'))
theorem v_istore4 (X : vCx p s m args c cc own nL z0 D cy) {x : Int32} {a0 a1 a2 a3 b : Option Value} {t : List (Option Value)} (hp : noL (a0 :: a1 :: a2 :: a3 :: b :: t) 4 = true) (hn : 4 < nL) (d : decode cc pc = .ok (.istore 4, 2)) (k : vV p l e R s m args below meth c nL z0 D cells slots Q n ad g (pc + 2) (a0 :: a1 :: a2 :: a3 :: some (.int x) :: t) st) : vV p l e R s m args below meth c nL z0 D cells slots Q n ad g pc (a0 :: a1 :: a2 :: a3 :: b :: t) (.int x :: st) := fun H locs ls hS hP hD hl => lv_istore X.1 X.2.1 d hl.lv hn rfl (fun ls' hl' => k H locs ls' hS hP hD (hasL.st1 hp (by simp) hl'))
theorem v_istore5 (X : vCx p s m args c cc own nL z0 D cy) {x : Int32} {a0 a1 a2 a3 a4 b : Option Value} {t : List (Option Value)} (hp : noL (a0 :: a1 :: a2 :: a3 :: a4 :: b :: t) 5 = true) (hn : 5 < nL) (d : decode cc pc = .ok (.istore 5, 2)) (k : vV p l e R s m args below meth c nL z0 D cells slots Q n ad g (pc + 2) (a0 :: a1 :: a2 :: a3 :: a4 :: some (.int x) :: t) st) : vV p l e R s m args below meth c nL z0 D cells slots Q n ad g pc (a0 :: a1 :: a2 :: a3 :: a4 :: b :: t) (.int x :: st) := fun H locs ls hS hP hD hl => lv_istore X.1 X.2.1 d hl.lv hn rfl (fun ls' hl' => k H locs ls' hS hP hD (hasL.st1 hp (by simp) hl'))
theorem v_istore6 (X : vCx p s m args c cc own nL z0 D cy) {x : Int32} {a0 a1 a2 a3 a4 a5 b : Option Value} {t : List (Option Value)} (hp : noL (a0 :: a1 :: a2 :: a3 :: a4 :: a5 :: b :: t) 6 = true) (hn : 6 < nL) (d : decode cc pc = .ok (.istore 6, 2)) (k : vV p l e R s m args below meth c nL z0 D cells slots Q n ad g (pc + 2) (a0 :: a1 :: a2 :: a3 :: a4 :: a5 :: some (.int x) :: t) st) : vV p l e R s m args below meth c nL z0 D cells slots Q n ad g pc (a0 :: a1 :: a2 :: a3 :: a4 :: a5 :: b :: t) (.int x :: st) := fun H locs ls hS hP hD hl => lv_istore X.1 X.2.1 d hl.lv hn rfl (fun ls' hl' => k H locs ls' hS hP hD (hasL.st1 hp (by simp) hl'))
theorem v_istore7 (X : vCx p s m args c cc own nL z0 D cy) {x : Int32} {a0 a1 a2 a3 a4 a5 a6 b : Option Value} {t : List (Option Value)} (hp : noL (a0 :: a1 :: a2 :: a3 :: a4 :: a5 :: a6 :: b :: t) 7 = true) (hn : 7 < nL) (d : decode cc pc = .ok (.istore 7, 2)) (k : vV p l e R s m args below meth c nL z0 D cells slots Q n ad g (pc + 2) (a0 :: a1 :: a2 :: a3 :: a4 :: a5 :: a6 :: some (.int x) :: t) st) : vV p l e R s m args below meth c nL z0 D cells slots Q n ad g pc (a0 :: a1 :: a2 :: a3 :: a4 :: a5 :: a6 :: b :: t) (.int x :: st) := fun H locs ls hS hP hD hl => lv_istore X.1 X.2.1 d hl.lv hn rfl (fun ls' hl' => k H locs ls' hS hP hD (hasL.st1 hp (by simp) hl'))
theorem v_istore8 (X : vCx p s m args c cc own nL z0 D cy) {x : Int32} {a0 a1 a2 a3 a4 a5 a6 a7 b : Option Value} {t : List (Option Value)} (hp : noL (a0 :: a1 :: a2 :: a3 :: a4 :: a5 :: a6 :: a7 :: b :: t) 8 = true) (hn : 8 < nL) (d : decode cc pc = .ok (.istore 8, 2)) (k : vV p l e R s m args below meth c nL z0 D cells slots Q n ad g (pc + 2) (a0 :: a1 :: a2 :: a3 :: a4 :: a5 :: a6 :: a7 :: some (.int x) :: t) st) : vV p l e R s m args below meth c nL z0 D cells slots Q n ad g pc (a0 :: a1 :: a2 :: a3 :: a4 :: a5 :: a6 :: a7 :: b :: t) (.int x :: st) := fun H locs ls hS hP hD hl => lv_istore X.1 X.2.1 d hl.lv hn rfl (fun ls' hl' => k H locs ls' hS hP hD (hasL.st1 hp (by simp) hl'))
theorem v_astore0 (X : vCx p s m args c cc own nL z0 D cy) {x : Nat} { b : Option Value} {t : List (Option Value)} (hp : noL (b :: t) 0 = true) (hn : 0 < nL) (d : decode cc pc = .ok (.astore_n 0, 1)) (k : vV p l e R s m args below meth c nL z0 D cells slots Q n ad g (pc + 1) (some (.ref x) :: t) st) : vV p l e R s m args below meth c nL z0 D cells slots Q n ad g pc (b :: t) (.ref x :: st) := fun H locs ls hS hP hD hl => lv_astore_n X.1 X.2.1 d rfl hl.lv hn rfl (fun ls' hl' => k H locs ls' hS hP hD (hasL.st1 hp (by simp) hl'))
theorem v_astore1 (X : vCx p s m args c cc own nL z0 D cy) {x : Nat} {a0 b : Option Value} {t : List (Option Value)} (hp : noL (a0 :: b :: t) 1 = true) (hn : 1 < nL) (d : decode cc pc = .ok (.astore_n 1, 1)) (k : vV p l e R s m args below meth c nL z0 D cells slots Q n ad g (pc + 1) (a0 :: some (.ref x) :: t) st) : vV p l e R s m args below meth c nL z0 D cells slots Q n ad g pc (a0 :: b :: t) (.ref x :: st) := fun H locs ls hS hP hD hl => lv_astore_n X.1 X.2.1 d rfl hl.lv hn rfl (fun ls' hl' => k H locs ls' hS hP hD (hasL.st1 hp (by simp) hl'))
theorem v_astore2 (X : vCx p s m args c cc own nL z0 D cy) {x : Nat} {a0 a1 b : Option Value} {t : List (Option Value)} (hp : noL (a0 :: a1 :: b :: t) 2 = true) (hn : 2 < nL) (d : decode cc pc = .ok (.astore_n 2, 1)) (k : vV p l e R s m args below meth c nL z0 D cells slots Q n ad g (pc + 1) (a0 :: a1 :: some (.ref x) :: t) st) : vV p l e R s m args below meth c nL z0 D cells slots Q n ad g pc (a0 :: a1 :: b :: t) (.ref x :: st) := fun H locs ls hS hP hD hl => lv_astore_n X.1 X.2.1 d rfl hl.lv hn rfl (fun ls' hl' => k H locs ls' hS hP hD (hasL.st1 hp (by simp) hl'))
theorem v_astore3 (X : vCx p s m args c cc own nL z0 D cy) {x : Nat} {a0 a1 a2 b : Option Value} {t : List (Option Value)} (hp : noL (a0 :: a1 :: a2 :: b :: t) 3 = true) (hn : 3 < nL) (d : decode cc pc = .ok (.astore_n 3, 1)) (k : vV p l e R s m args below meth c nL z0 D cells slots Q n ad g (pc + 1) (a0 :: a1 :: a2 :: some (.ref x) :: t) st) : vV p l e R s m args below meth c nL z0 D cells slots Q n ad g pc (a0 :: a1 :: a2 :: b :: t) (.ref x :: st) := fun H locs ls hS hP hD hl => lv_astore_n X.1 X.2.1 d rfl hl.lv hn rfl (fun ls' hl' => k H locs ls' hS hP hD (hasL.st1 hp (by simp) hl'))
theorem v_astore4 (X : vCx p s m args c cc own nL z0 D cy) {x : Nat} {a0 a1 a2 a3 b : Option Value} {t : List (Option Value)} (hp : noL (a0 :: a1 :: a2 :: a3 :: b :: t) 4 = true) (hn : 4 < nL) (d : decode cc pc = .ok (.astore 4, 2)) (k : vV p l e R s m args below meth c nL z0 D cells slots Q n ad g (pc + 2) (a0 :: a1 :: a2 :: a3 :: some (.ref x) :: t) st) : vV p l e R s m args below meth c nL z0 D cells slots Q n ad g pc (a0 :: a1 :: a2 :: a3 :: b :: t) (.ref x :: st) := fun H locs ls hS hP hD hl => lv_astore X.1 X.2.1 d hl.lv hn rfl (fun ls' hl' => k H locs ls' hS hP hD (hasL.st1 hp (by simp) hl'))
theorem v_astore5 (X : vCx p s m args c cc own nL z0 D cy) {x : Nat} {a0 a1 a2 a3 a4 b : Option Value} {t : List (Option Value)} (hp : noL (a0 :: a1 :: a2 :: a3 :: a4 :: b :: t) 5 = true) (hn : 5 < nL) (d : decode cc pc = .ok (.astore 5, 2)) (k : vV p l e R s m args below meth c nL z0 D cells slots Q n ad g (pc + 2) (a0 :: a1 :: a2 :: a3 :: a4 :: some (.ref x) :: t) st) : vV p l e R s m args below meth c nL z0 D cells slots Q n ad g pc (a0 :: a1 :: a2 :: a3 :: a4 :: b :: t) (.ref x :: st) := fun H locs ls hS hP hD hl => lv_astore X.1 X.2.1 d hl.lv hn rfl (fun ls' hl' => k H locs ls' hS hP hD (hasL.st1 hp (by simp) hl'))
theorem v_astore6 (X : vCx p s m args c cc own nL z0 D cy) {x : Nat} {a0 a1 a2 a3 a4 a5 b : Option Value} {t : List (Option Value)} (hp : noL (a0 :: a1 :: a2 :: a3 :: a4 :: a5 :: b :: t) 6 = true) (hn : 6 < nL) (d : decode cc pc = .ok (.astore 6, 2)) (k : vV p l e R s m args below meth c nL z0 D cells slots Q n ad g (pc + 2) (a0 :: a1 :: a2 :: a3 :: a4 :: a5 :: some (.ref x) :: t) st) : vV p l e R s m args below meth c nL z0 D cells slots Q n ad g pc (a0 :: a1 :: a2 :: a3 :: a4 :: a5 :: b :: t) (.ref x :: st) := fun H locs ls hS hP hD hl => lv_astore X.1 X.2.1 d hl.lv hn rfl (fun ls' hl' => k H locs ls' hS hP hD (hasL.st1 hp (by simp) hl'))
theorem v_astore7 (X : vCx p s m args c cc own nL z0 D cy) {x : Nat} {a0 a1 a2 a3 a4 a5 a6 b : Option Value} {t : List (Option Value)} (hp : noL (a0 :: a1 :: a2 :: a3 :: a4 :: a5 :: a6 :: b :: t) 7 = true) (hn : 7 < nL) (d : decode cc pc = .ok (.astore 7, 2)) (k : vV p l e R s m args below meth c nL z0 D cells slots Q n ad g (pc + 2) (a0 :: a1 :: a2 :: a3 :: a4 :: a5 :: a6 :: some (.ref x) :: t) st) : vV p l e R s m args below meth c nL z0 D cells slots Q n ad g pc (a0 :: a1 :: a2 :: a3 :: a4 :: a5 :: a6 :: b :: t) (.ref x :: st) := fun H locs ls hS hP hD hl => lv_astore X.1 X.2.1 d hl.lv hn rfl (fun ls' hl' => k H locs ls' hS hP hD (hasL.st1 hp (by simp) hl'))
theorem v_astore8 (X : vCx p s m args c cc own nL z0 D cy) {x : Nat} {a0 a1 a2 a3 a4 a5 a6 a7 b : Option Value} {t : List (Option Value)} (hp : noL (a0 :: a1 :: a2 :: a3 :: a4 :: a5 :: a6 :: a7 :: b :: t) 8 = true) (hn : 8 < nL) (d : decode cc pc = .ok (.astore 8, 2)) (k : vV p l e R s m args below meth c nL z0 D cells slots Q n ad g (pc + 2) (a0 :: a1 :: a2 :: a3 :: a4 :: a5 :: a6 :: a7 :: some (.ref x) :: t) st) : vV p l e R s m args below meth c nL z0 D cells slots Q n ad g pc (a0 :: a1 :: a2 :: a3 :: a4 :: a5 :: a6 :: a7 :: b :: t) (.ref x :: st) := fun H locs ls hS hP hD hl => lv_astore X.1 X.2.1 d hl.lv hn rfl (fun ls' hl' => k H locs ls' hS hP hD (hasL.st1 hp (by simp) hl'))
theorem v_lstore0 (X : vCx p s m args c cc own nL z0 D cy) {x : Int64} { b b2 : Option Value} {t : List (Option Value)} (hp : noL (b :: b2 :: t) 0 = true) (hn : 1 < nL) (d : decode cc pc = .ok (.lstore_n 0, 1)) (k : vV p l e R s m args below meth c nL z0 D cells slots Q n ad g (pc + 1) (some (.long x) :: none :: t) st) : vV p l e R s m args below meth c nL z0 D cells slots Q n ad g pc (b :: b2 :: t) (.long x :: st) := fun H locs ls hS hP hD hl => lv_lstore_n X.1 X.2.1 d rfl hl.lv hn rfl (fun ls' hl' => k H locs ls' hS hP hD (hasL.st2 hp (by simp) hl'))
theorem v_lstore1 (X : vCx p s m args c cc own nL z0 D cy) {x : Int64} {a0 b b2 : Option Value} {t : List (Option Value)} (hp : noL (a0 :: b :: b2 :: t) 1 = true) (hn : 2 < nL) (d : decode cc pc = .ok (.lstore_n 1, 1)) (k : vV p l e R s m args below meth c nL z0 D cells slots Q n ad g (pc + 1) (a0 :: some (.long x) :: none :: t) st) : vV p l e R s m args below meth c nL z0 D cells slots Q n ad g pc (a0 :: b :: b2 :: t) (.long x :: st) := fun H locs ls hS hP hD hl => lv_lstore_n X.1 X.2.1 d rfl hl.lv hn rfl (fun ls' hl' => k H locs ls' hS hP hD (hasL.st2 hp (by simp) hl'))
theorem v_lstore2 (X : vCx p s m args c cc own nL z0 D cy) {x : Int64} {a0 a1 b b2 : Option Value} {t : List (Option Value)} (hp : noL (a0 :: a1 :: b :: b2 :: t) 2 = true) (hn : 3 < nL) (d : decode cc pc = .ok (.lstore_n 2, 1)) (k : vV p l e R s m args below meth c nL z0 D cells slots Q n ad g (pc + 1) (a0 :: a1 :: some (.long x) :: none :: t) st) : vV p l e R s m args below meth c nL z0 D cells slots Q n ad g pc (a0 :: a1 :: b :: b2 :: t) (.long x :: st) := fun H locs ls hS hP hD hl => lv_lstore_n X.1 X.2.1 d rfl hl.lv hn rfl (fun ls' hl' => k H locs ls' hS hP hD (hasL.st2 hp (by simp) hl'))
theorem v_lstore3 (X : vCx p s m args c cc own nL z0 D cy) {x : Int64} {a0 a1 a2 b b2 : Option Value} {t : List (Option Value)} (hp : noL (a0 :: a1 :: a2 :: b :: b2 :: t) 3 = true) (hn : 4 < nL) (d : decode cc pc = .ok (.lstore_n 3, 1)) (k : vV p l e R s m args below meth c nL z0 D cells slots Q n ad g (pc + 1) (a0 :: a1 :: a2 :: some (.long x) :: none :: t) st) : vV p l e R s m args below meth c nL z0 D cells slots Q n ad g pc (a0 :: a1 :: a2 :: b :: b2 :: t) (.long x :: st) := fun H locs ls hS hP hD hl => lv_lstore_n X.1 X.2.1 d rfl hl.lv hn rfl (fun ls' hl' => k H locs ls' hS hP hD (hasL.st2 hp (by simp) hl'))
theorem v_lstore4 (X : vCx p s m args c cc own nL z0 D cy) {x : Int64} {a0 a1 a2 a3 b b2 : Option Value} {t : List (Option Value)} (hp : noL (a0 :: a1 :: a2 :: a3 :: b :: b2 :: t) 4 = true) (hn : 5 < nL) (d : decode cc pc = .ok (.lstore 4, 2)) (k : vV p l e R s m args below meth c nL z0 D cells slots Q n ad g (pc + 2) (a0 :: a1 :: a2 :: a3 :: some (.long x) :: none :: t) st) : vV p l e R s m args below meth c nL z0 D cells slots Q n ad g pc (a0 :: a1 :: a2 :: a3 :: b :: b2 :: t) (.long x :: st) := fun H locs ls hS hP hD hl => lv_lstore X.1 X.2.1 d hl.lv hn rfl (fun ls' hl' => k H locs ls' hS hP hD (hasL.st2 hp (by simp) hl'))
theorem v_lstore5 (X : vCx p s m args c cc own nL z0 D cy) {x : Int64} {a0 a1 a2 a3 a4 b b2 : Option Value} {t : List (Option Value)} (hp : noL (a0 :: a1 :: a2 :: a3 :: a4 :: b :: b2 :: t) 5 = true) (hn : 6 < nL) (d : decode cc pc = .ok (.lstore 5, 2)) (k : vV p l e R s m args below meth c nL z0 D cells slots Q n ad g (pc + 2) (a0 :: a1 :: a2 :: a3 :: a4 :: some (.long x) :: none :: t) st) : vV p l e R s m args below meth c nL z0 D cells slots Q n ad g pc (a0 :: a1 :: a2 :: a3 :: a4 :: b :: b2 :: t) (.long x :: st) := fun H locs ls hS hP hD hl => lv_lstore X.1 X.2.1 d hl.lv hn rfl (fun ls' hl' => k H locs ls' hS hP hD (hasL.st2 hp (by simp) hl'))
theorem v_lstore6 (X : vCx p s m args c cc own nL z0 D cy) {x : Int64} {a0 a1 a2 a3 a4 a5 b b2 : Option Value} {t : List (Option Value)} (hp : noL (a0 :: a1 :: a2 :: a3 :: a4 :: a5 :: b :: b2 :: t) 6 = true) (hn : 7 < nL) (d : decode cc pc = .ok (.lstore 6, 2)) (k : vV p l e R s m args below meth c nL z0 D cells slots Q n ad g (pc + 2) (a0 :: a1 :: a2 :: a3 :: a4 :: a5 :: some (.long x) :: none :: t) st) : vV p l e R s m args below meth c nL z0 D cells slots Q n ad g pc (a0 :: a1 :: a2 :: a3 :: a4 :: a5 :: b :: b2 :: t) (.long x :: st) := fun H locs ls hS hP hD hl => lv_lstore X.1 X.2.1 d hl.lv hn rfl (fun ls' hl' => k H locs ls' hS hP hD (hasL.st2 hp (by simp) hl'))
theorem v_lstore7 (X : vCx p s m args c cc own nL z0 D cy) {x : Int64} {a0 a1 a2 a3 a4 a5 a6 b b2 : Option Value} {t : List (Option Value)} (hp : noL (a0 :: a1 :: a2 :: a3 :: a4 :: a5 :: a6 :: b :: b2 :: t) 7 = true) (hn : 8 < nL) (d : decode cc pc = .ok (.lstore 7, 2)) (k : vV p l e R s m args below meth c nL z0 D cells slots Q n ad g (pc + 2) (a0 :: a1 :: a2 :: a3 :: a4 :: a5 :: a6 :: some (.long x) :: none :: t) st) : vV p l e R s m args below meth c nL z0 D cells slots Q n ad g pc (a0 :: a1 :: a2 :: a3 :: a4 :: a5 :: a6 :: b :: b2 :: t) (.long x :: st) := fun H locs ls hS hP hD hl => lv_lstore X.1 X.2.1 d hl.lv hn rfl (fun ls' hl' => k H locs ls' hS hP hD (hasL.st2 hp (by simp) hl'))
theorem v_dstore0 (X : vCx p s m args c cc own nL z0 D cy) {x : UInt64} { b b2 : Option Value} {t : List (Option Value)} (hp : noL (b :: b2 :: t) 0 = true) (hn : 1 < nL) (d : decode cc pc = .ok (.dstore_n 0, 1)) (k : vV p l e R s m args below meth c nL z0 D cells slots Q n ad g (pc + 1) (some (.double x) :: none :: t) st) : vV p l e R s m args below meth c nL z0 D cells slots Q n ad g pc (b :: b2 :: t) (.double x :: st) := fun H locs ls hS hP hD hl => lv_dstore_n X.1 X.2.1 d rfl hl.lv hn rfl (fun ls' hl' => k H locs ls' hS hP hD (hasL.st2 hp (by simp) hl'))
theorem v_dstore1 (X : vCx p s m args c cc own nL z0 D cy) {x : UInt64} {a0 b b2 : Option Value} {t : List (Option Value)} (hp : noL (a0 :: b :: b2 :: t) 1 = true) (hn : 2 < nL) (d : decode cc pc = .ok (.dstore_n 1, 1)) (k : vV p l e R s m args below meth c nL z0 D cells slots Q n ad g (pc + 1) (a0 :: some (.double x) :: none :: t) st) : vV p l e R s m args below meth c nL z0 D cells slots Q n ad g pc (a0 :: b :: b2 :: t) (.double x :: st) := fun H locs ls hS hP hD hl => lv_dstore_n X.1 X.2.1 d rfl hl.lv hn rfl (fun ls' hl' => k H locs ls' hS hP hD (hasL.st2 hp (by simp) hl'))
theorem v_dstore2 (X : vCx p s m args c cc own nL z0 D cy) {x : UInt64} {a0 a1 b b2 : Option Value} {t : List (Option Value)} (hp : noL (a0 :: a1 :: b :: b2 :: t) 2 = true) (hn : 3 < nL) (d : decode cc pc = .ok (.dstore_n 2, 1)) (k : vV p l e R s m args below meth c nL z0 D cells slots Q n ad g (pc + 1) (a0 :: a1 :: some (.double x) :: none :: t) st) : vV p l e R s m args below meth c nL z0 D cells slots Q n ad g pc (a0 :: a1 :: b :: b2 :: t) (.double x :: st) := fun H locs ls hS hP hD hl => lv_dstore_n X.1 X.2.1 d rfl hl.lv hn rfl (fun ls' hl' => k H locs ls' hS hP hD (hasL.st2 hp (by simp) hl'))
theorem v_dstore3 (X : vCx p s m args c cc own nL z0 D cy) {x : UInt64} {a0 a1 a2 b b2 : Option Value} {t : List (Option Value)} (hp : noL (a0 :: a1 :: a2 :: b :: b2 :: t) 3 = true) (hn : 4 < nL) (d : decode cc pc = .ok (.dstore_n 3, 1)) (k : vV p l e R s m args below meth c nL z0 D cells slots Q n ad g (pc + 1) (a0 :: a1 :: a2 :: some (.double x) :: none :: t) st) : vV p l e R s m args below meth c nL z0 D cells slots Q n ad g pc (a0 :: a1 :: a2 :: b :: b2 :: t) (.double x :: st) := fun H locs ls hS hP hD hl => lv_dstore_n X.1 X.2.1 d rfl hl.lv hn rfl (fun ls' hl' => k H locs ls' hS hP hD (hasL.st2 hp (by simp) hl'))
theorem v_dstore4 (X : vCx p s m args c cc own nL z0 D cy) {x : UInt64} {a0 a1 a2 a3 b b2 : Option Value} {t : List (Option Value)} (hp : noL (a0 :: a1 :: a2 :: a3 :: b :: b2 :: t) 4 = true) (hn : 5 < nL) (d : decode cc pc = .ok (.dstore 4, 2)) (k : vV p l e R s m args below meth c nL z0 D cells slots Q n ad g (pc + 2) (a0 :: a1 :: a2 :: a3 :: some (.double x) :: none :: t) st) : vV p l e R s m args below meth c nL z0 D cells slots Q n ad g pc (a0 :: a1 :: a2 :: a3 :: b :: b2 :: t) (.double x :: st) := fun H locs ls hS hP hD hl => lv_dstore X.1 X.2.1 d hl.lv hn rfl (fun ls' hl' => k H locs ls' hS hP hD (hasL.st2 hp (by simp) hl'))
theorem v_dstore5 (X : vCx p s m args c cc own nL z0 D cy) {x : UInt64} {a0 a1 a2 a3 a4 b b2 : Option Value} {t : List (Option Value)} (hp : noL (a0 :: a1 :: a2 :: a3 :: a4 :: b :: b2 :: t) 5 = true) (hn : 6 < nL) (d : decode cc pc = .ok (.dstore 5, 2)) (k : vV p l e R s m args below meth c nL z0 D cells slots Q n ad g (pc + 2) (a0 :: a1 :: a2 :: a3 :: a4 :: some (.double x) :: none :: t) st) : vV p l e R s m args below meth c nL z0 D cells slots Q n ad g pc (a0 :: a1 :: a2 :: a3 :: a4 :: b :: b2 :: t) (.double x :: st) := fun H locs ls hS hP hD hl => lv_dstore X.1 X.2.1 d hl.lv hn rfl (fun ls' hl' => k H locs ls' hS hP hD (hasL.st2 hp (by simp) hl'))
theorem v_dstore6 (X : vCx p s m args c cc own nL z0 D cy) {x : UInt64} {a0 a1 a2 a3 a4 a5 b b2 : Option Value} {t : List (Option Value)} (hp : noL (a0 :: a1 :: a2 :: a3 :: a4 :: a5 :: b :: b2 :: t) 6 = true) (hn : 7 < nL) (d : decode cc pc = .ok (.dstore 6, 2)) (k : vV p l e R s m args below meth c nL z0 D cells slots Q n ad g (pc + 2) (a0 :: a1 :: a2 :: a3 :: a4 :: a5 :: some (.double x) :: none :: t) st) : vV p l e R s m args below meth c nL z0 D cells slots Q n ad g pc (a0 :: a1 :: a2 :: a3 :: a4 :: a5 :: b :: b2 :: t) (.double x :: st) := fun H locs ls hS hP hD hl => lv_dstore X.1 X.2.1 d hl.lv hn rfl (fun ls' hl' => k H locs ls' hS hP hD (hasL.st2 hp (by simp) hl'))
theorem v_dstore7 (X : vCx p s m args c cc own nL z0 D cy) {x : UInt64} {a0 a1 a2 a3 a4 a5 a6 b b2 : Option Value} {t : List (Option Value)} (hp : noL (a0 :: a1 :: a2 :: a3 :: a4 :: a5 :: a6 :: b :: b2 :: t) 7 = true) (hn : 8 < nL) (d : decode cc pc = .ok (.dstore 7, 2)) (k : vV p l e R s m args below meth c nL z0 D cells slots Q n ad g (pc + 2) (a0 :: a1 :: a2 :: a3 :: a4 :: a5 :: a6 :: some (.double x) :: none :: t) st) : vV p l e R s m args below meth c nL z0 D cells slots Q n ad g pc (a0 :: a1 :: a2 :: a3 :: a4 :: a5 :: a6 :: b :: b2 :: t) (.double x :: st) := fun H locs ls hS hP hD hl => lv_dstore X.1 X.2.1 d hl.lv hn rfl (fun ls' hl' => k H locs ls' hS hP hD (hasL.st2 hp (by simp) hl'))
theorem v_iinc0 (X : vCx p s m args c cc own nL z0 D cy) {x v : Int32} {t : List (Option Value)} {z : Int} (hp : noL (some (.int x) :: t) 0 = true) (hn : 0 < nL) (d : decode cc pc = .ok (.iinc 0 z, 3)) (hv : x + Int32.ofInt z = v) (k : vV p l e R s m args below meth c nL z0 D cells slots Q n ad g (pc + 3) (some (.int v) :: t) st) : vV p l e R s m args below meth c nL z0 D cells slots Q n ad g pc (some (.int x) :: t) st := fun H locs ls hS hP hD hl => by
  obtain ⟨j, hj⟩ := List.getElem?_of_mem ((prs_mem (some (.int x) :: t) 0 0 (.int x)).mpr ⟨0, by omega, rfl⟩)
  exact lv_iinc X.1 X.2.1 d hl.lv hj hv hn rfl (fun ls' hl' => k H locs ls' hS hP hD (hasL.st1 hp (by simp) hl'))
theorem v_iinc1 (X : vCx p s m args c cc own nL z0 D cy) {x v : Int32} {a0 : Option Value} {t : List (Option Value)} {z : Int} (hp : noL (a0 :: some (.int x) :: t) 1 = true) (hn : 1 < nL) (d : decode cc pc = .ok (.iinc 1 z, 3)) (hv : x + Int32.ofInt z = v) (k : vV p l e R s m args below meth c nL z0 D cells slots Q n ad g (pc + 3) (a0 :: some (.int v) :: t) st) : vV p l e R s m args below meth c nL z0 D cells slots Q n ad g pc (a0 :: some (.int x) :: t) st := fun H locs ls hS hP hD hl => by
  obtain ⟨j, hj⟩ := List.getElem?_of_mem ((prs_mem (a0 :: some (.int x) :: t) 0 1 (.int x)).mpr ⟨1, by omega, rfl⟩)
  exact lv_iinc X.1 X.2.1 d hl.lv hj hv hn rfl (fun ls' hl' => k H locs ls' hS hP hD (hasL.st1 hp (by simp) hl'))
theorem v_iinc2 (X : vCx p s m args c cc own nL z0 D cy) {x v : Int32} {a0 a1 : Option Value} {t : List (Option Value)} {z : Int} (hp : noL (a0 :: a1 :: some (.int x) :: t) 2 = true) (hn : 2 < nL) (d : decode cc pc = .ok (.iinc 2 z, 3)) (hv : x + Int32.ofInt z = v) (k : vV p l e R s m args below meth c nL z0 D cells slots Q n ad g (pc + 3) (a0 :: a1 :: some (.int v) :: t) st) : vV p l e R s m args below meth c nL z0 D cells slots Q n ad g pc (a0 :: a1 :: some (.int x) :: t) st := fun H locs ls hS hP hD hl => by
  obtain ⟨j, hj⟩ := List.getElem?_of_mem ((prs_mem (a0 :: a1 :: some (.int x) :: t) 0 2 (.int x)).mpr ⟨2, by omega, rfl⟩)
  exact lv_iinc X.1 X.2.1 d hl.lv hj hv hn rfl (fun ls' hl' => k H locs ls' hS hP hD (hasL.st1 hp (by simp) hl'))
theorem v_iinc3 (X : vCx p s m args c cc own nL z0 D cy) {x v : Int32} {a0 a1 a2 : Option Value} {t : List (Option Value)} {z : Int} (hp : noL (a0 :: a1 :: a2 :: some (.int x) :: t) 3 = true) (hn : 3 < nL) (d : decode cc pc = .ok (.iinc 3 z, 3)) (hv : x + Int32.ofInt z = v) (k : vV p l e R s m args below meth c nL z0 D cells slots Q n ad g (pc + 3) (a0 :: a1 :: a2 :: some (.int v) :: t) st) : vV p l e R s m args below meth c nL z0 D cells slots Q n ad g pc (a0 :: a1 :: a2 :: some (.int x) :: t) st := fun H locs ls hS hP hD hl => by
  obtain ⟨j, hj⟩ := List.getElem?_of_mem ((prs_mem (a0 :: a1 :: a2 :: some (.int x) :: t) 0 3 (.int x)).mpr ⟨3, by omega, rfl⟩)
  exact lv_iinc X.1 X.2.1 d hl.lv hj hv hn rfl (fun ls' hl' => k H locs ls' hS hP hD (hasL.st1 hp (by simp) hl'))
theorem v_iinc4 (X : vCx p s m args c cc own nL z0 D cy) {x v : Int32} {a0 a1 a2 a3 : Option Value} {t : List (Option Value)} {z : Int} (hp : noL (a0 :: a1 :: a2 :: a3 :: some (.int x) :: t) 4 = true) (hn : 4 < nL) (d : decode cc pc = .ok (.iinc 4 z, 3)) (hv : x + Int32.ofInt z = v) (k : vV p l e R s m args below meth c nL z0 D cells slots Q n ad g (pc + 3) (a0 :: a1 :: a2 :: a3 :: some (.int v) :: t) st) : vV p l e R s m args below meth c nL z0 D cells slots Q n ad g pc (a0 :: a1 :: a2 :: a3 :: some (.int x) :: t) st := fun H locs ls hS hP hD hl => by
  obtain ⟨j, hj⟩ := List.getElem?_of_mem ((prs_mem (a0 :: a1 :: a2 :: a3 :: some (.int x) :: t) 0 4 (.int x)).mpr ⟨4, by omega, rfl⟩)
  exact lv_iinc X.1 X.2.1 d hl.lv hj hv hn rfl (fun ls' hl' => k H locs ls' hS hP hD (hasL.st1 hp (by simp) hl'))
theorem v_iinc5 (X : vCx p s m args c cc own nL z0 D cy) {x v : Int32} {a0 a1 a2 a3 a4 : Option Value} {t : List (Option Value)} {z : Int} (hp : noL (a0 :: a1 :: a2 :: a3 :: a4 :: some (.int x) :: t) 5 = true) (hn : 5 < nL) (d : decode cc pc = .ok (.iinc 5 z, 3)) (hv : x + Int32.ofInt z = v) (k : vV p l e R s m args below meth c nL z0 D cells slots Q n ad g (pc + 3) (a0 :: a1 :: a2 :: a3 :: a4 :: some (.int v) :: t) st) : vV p l e R s m args below meth c nL z0 D cells slots Q n ad g pc (a0 :: a1 :: a2 :: a3 :: a4 :: some (.int x) :: t) st := fun H locs ls hS hP hD hl => by
  obtain ⟨j, hj⟩ := List.getElem?_of_mem ((prs_mem (a0 :: a1 :: a2 :: a3 :: a4 :: some (.int x) :: t) 0 5 (.int x)).mpr ⟨5, by omega, rfl⟩)
  exact lv_iinc X.1 X.2.1 d hl.lv hj hv hn rfl (fun ls' hl' => k H locs ls' hS hP hD (hasL.st1 hp (by simp) hl'))
theorem v_iinc6 (X : vCx p s m args c cc own nL z0 D cy) {x v : Int32} {a0 a1 a2 a3 a4 a5 : Option Value} {t : List (Option Value)} {z : Int} (hp : noL (a0 :: a1 :: a2 :: a3 :: a4 :: a5 :: some (.int x) :: t) 6 = true) (hn : 6 < nL) (d : decode cc pc = .ok (.iinc 6 z, 3)) (hv : x + Int32.ofInt z = v) (k : vV p l e R s m args below meth c nL z0 D cells slots Q n ad g (pc + 3) (a0 :: a1 :: a2 :: a3 :: a4 :: a5 :: some (.int v) :: t) st) : vV p l e R s m args below meth c nL z0 D cells slots Q n ad g pc (a0 :: a1 :: a2 :: a3 :: a4 :: a5 :: some (.int x) :: t) st := fun H locs ls hS hP hD hl => by
  obtain ⟨j, hj⟩ := List.getElem?_of_mem ((prs_mem (a0 :: a1 :: a2 :: a3 :: a4 :: a5 :: some (.int x) :: t) 0 6 (.int x)).mpr ⟨6, by omega, rfl⟩)
  exact lv_iinc X.1 X.2.1 d hl.lv hj hv hn rfl (fun ls' hl' => k H locs ls' hS hP hD (hasL.st1 hp (by simp) hl'))
theorem v_iinc7 (X : vCx p s m args c cc own nL z0 D cy) {x v : Int32} {a0 a1 a2 a3 a4 a5 a6 : Option Value} {t : List (Option Value)} {z : Int} (hp : noL (a0 :: a1 :: a2 :: a3 :: a4 :: a5 :: a6 :: some (.int x) :: t) 7 = true) (hn : 7 < nL) (d : decode cc pc = .ok (.iinc 7 z, 3)) (hv : x + Int32.ofInt z = v) (k : vV p l e R s m args below meth c nL z0 D cells slots Q n ad g (pc + 3) (a0 :: a1 :: a2 :: a3 :: a4 :: a5 :: a6 :: some (.int v) :: t) st) : vV p l e R s m args below meth c nL z0 D cells slots Q n ad g pc (a0 :: a1 :: a2 :: a3 :: a4 :: a5 :: a6 :: some (.int x) :: t) st := fun H locs ls hS hP hD hl => by
  obtain ⟨j, hj⟩ := List.getElem?_of_mem ((prs_mem (a0 :: a1 :: a2 :: a3 :: a4 :: a5 :: a6 :: some (.int x) :: t) 0 7 (.int x)).mpr ⟨7, by omega, rfl⟩)
  exact lv_iinc X.1 X.2.1 d hl.lv hj hv hn rfl (fun ls' hl' => k H locs ls' hS hP hD (hasL.st1 hp (by simp) hl'))
theorem v_iinc8 (X : vCx p s m args c cc own nL z0 D cy) {x v : Int32} {a0 a1 a2 a3 a4 a5 a6 a7 : Option Value} {t : List (Option Value)} {z : Int} (hp : noL (a0 :: a1 :: a2 :: a3 :: a4 :: a5 :: a6 :: a7 :: some (.int x) :: t) 8 = true) (hn : 8 < nL) (d : decode cc pc = .ok (.iinc 8 z, 3)) (hv : x + Int32.ofInt z = v) (k : vV p l e R s m args below meth c nL z0 D cells slots Q n ad g (pc + 3) (a0 :: a1 :: a2 :: a3 :: a4 :: a5 :: a6 :: a7 :: some (.int v) :: t) st) : vV p l e R s m args below meth c nL z0 D cells slots Q n ad g pc (a0 :: a1 :: a2 :: a3 :: a4 :: a5 :: a6 :: a7 :: some (.int x) :: t) st := fun H locs ls hS hP hD hl => by
  obtain ⟨j, hj⟩ := List.getElem?_of_mem ((prs_mem (a0 :: a1 :: a2 :: a3 :: a4 :: a5 :: a6 :: a7 :: some (.int x) :: t) 0 8 (.int x)).mpr ⟨8, by omega, rfl⟩)
  exact lv_iinc X.1 X.2.1 d hl.lv hj hv hn rfl (fun ls' hl' => k H locs ls' hS hP hD (hasL.st1 hp (by simp) hl'))
theorem v_iadd (X : vCx p s m args c cc own nL z0 D cy) {x y : Int32} (d : decode cc pc = .ok (.iadd, 1))  (k : vV p l e R s m args below meth c nL z0 D cells slots Q n ad g (pc + 1) L (.int (x + y) :: st)) : vV p l e R s m args below meth c nL z0 D cells slots Q n ad g pc L (.int y :: .int x :: st) := fun H locs ls hS hP hD hl => lv_iadd X.1 X.2.1 d (k H locs ls hS hP hD hl)
theorem v_isub (X : vCx p s m args c cc own nL z0 D cy) {x y : Int32} (d : decode cc pc = .ok (.isub, 1))  (k : vV p l e R s m args below meth c nL z0 D cells slots Q n ad g (pc + 1) L (.int (x - y) :: st)) : vV p l e R s m args below meth c nL z0 D cells slots Q n ad g pc L (.int y :: .int x :: st) := fun H locs ls hS hP hD hl => lv_isub X.1 X.2.1 d (k H locs ls hS hP hD hl)
theorem v_imul (X : vCx p s m args c cc own nL z0 D cy) {x y : Int32} (d : decode cc pc = .ok (.imul, 1))  (k : vV p l e R s m args below meth c nL z0 D cells slots Q n ad g (pc + 1) L (.int (x * y) :: st)) : vV p l e R s m args below meth c nL z0 D cells slots Q n ad g pc L (.int y :: .int x :: st) := fun H locs ls hS hP hD hl => lv_imul X.1 X.2.1 d (k H locs ls hS hP hD hl)
theorem v_iand (X : vCx p s m args c cc own nL z0 D cy) {x y : Int32} (d : decode cc pc = .ok (.iand, 1))  (k : vV p l e R s m args below meth c nL z0 D cells slots Q n ad g (pc + 1) L (.int (x &&& y) :: st)) : vV p l e R s m args below meth c nL z0 D cells slots Q n ad g pc L (.int y :: .int x :: st) := fun H locs ls hS hP hD hl => lv_iand X.1 X.2.1 d (k H locs ls hS hP hD hl)
theorem v_ixor (X : vCx p s m args c cc own nL z0 D cy) {x y : Int32} (d : decode cc pc = .ok (.ixor, 1))  (k : vV p l e R s m args below meth c nL z0 D cells slots Q n ad g (pc + 1) L (.int (x ^^^ y) :: st)) : vV p l e R s m args below meth c nL z0 D cells slots Q n ad g pc L (.int y :: .int x :: st) := fun H locs ls hS hP hD hl => lv_ixor X.1 X.2.1 d (k H locs ls hS hP hD hl)
theorem v_idiv (X : vCx p s m args c cc own nL z0 D cy) {x y : Int32} (d : decode cc pc = .ok (.idiv, 1)) (h0 : ¬ y = 0) (k : vV p l e R s m args below meth c nL z0 D cells slots Q n ad g (pc + 1) L (.int (x / y) :: st)) : vV p l e R s m args below meth c nL z0 D cells slots Q n ad g pc L (.int y :: .int x :: st) := fun H locs ls hS hP hD hl => lv_idiv X.1 X.2.1 d h0 (k H locs ls hS hP hD hl)
theorem v_irem (X : vCx p s m args c cc own nL z0 D cy) {x y : Int32} (d : decode cc pc = .ok (.irem, 1)) (h0 : ¬ y = 0) (k : vV p l e R s m args below meth c nL z0 D cells slots Q n ad g (pc + 1) L (.int (x - x / y * y) :: st)) : vV p l e R s m args below meth c nL z0 D cells slots Q n ad g pc L (.int y :: .int x :: st) := fun H locs ls hS hP hD hl => lv_irem X.1 X.2.1 d h0 (k H locs ls hS hP hD hl)
theorem v_ineg (X : vCx p s m args c cc own nL z0 D cy) {x : Int32} (d : decode cc pc = .ok (.ineg, 1))  (k : vV p l e R s m args below meth c nL z0 D cells slots Q n ad g (pc + 1) L (.int (-x) :: st)) : vV p l e R s m args below meth c nL z0 D cells slots Q n ad g pc L (.int x :: st) := fun H locs ls hS hP hD hl => lv_ineg X.1 X.2.1 d (k H locs ls hS hP hD hl)
theorem v_ladd (X : vCx p s m args c cc own nL z0 D cy) {x y : Int64} (d : decode cc pc = .ok (.ladd, 1))  (k : vV p l e R s m args below meth c nL z0 D cells slots Q n ad g (pc + 1) L (.long (x + y) :: st)) : vV p l e R s m args below meth c nL z0 D cells slots Q n ad g pc L (.long y :: .long x :: st) := fun H locs ls hS hP hD hl => lv_ladd X.1 X.2.1 d (k H locs ls hS hP hD hl)
theorem v_lmul (X : vCx p s m args c cc own nL z0 D cy) {x y : Int64} (d : decode cc pc = .ok (.lmul, 1))  (k : vV p l e R s m args below meth c nL z0 D cells slots Q n ad g (pc + 1) L (.long (x * y) :: st)) : vV p l e R s m args below meth c nL z0 D cells slots Q n ad g pc L (.long y :: .long x :: st) := fun H locs ls hS hP hD hl => lv_lmul X.1 X.2.1 d (k H locs ls hS hP hD hl)
theorem v_i2l (X : vCx p s m args c cc own nL z0 D cy) {x : Int32} (d : decode cc pc = .ok (.i2l, 1))  (k : vV p l e R s m args below meth c nL z0 D cells slots Q n ad g (pc + 1) L (.long x.toInt64 :: st)) : vV p l e R s m args below meth c nL z0 D cells slots Q n ad g pc L (.int x :: st) := fun H locs ls hS hP hD hl => lv_i2l X.1 X.2.1 d rfl (k H locs ls hS hP hD hl)
theorem v_i2d (X : vCx p s m args c cc own nL z0 D cy) {x : Int32} (d : decode cc pc = .ok (.i2d, 1))  (k : vV p l e R s m args below meth c nL z0 D cells slots Q n ad g (pc + 1) L (.double (FP.i2d x) :: st)) : vV p l e R s m args below meth c nL z0 D cells slots Q n ad g pc L (.int x :: st) := fun H locs ls hS hP hD hl => lv_i2d X.1 X.2.1 d (k H locs ls hS hP hD hl)
theorem v_ddiv (X : vCx p s m args c cc own nL z0 D cy) {x y : UInt64} (d : decode cc pc = .ok (.ddiv, 1)) (h0 : vf_n64 (FP.ddiv x y)) (k : vV p l e R s m args below meth c nL z0 D cells slots Q n ad g (pc + 1) L (.double (FP.ddiv x y) :: st)) : vV p l e R s m args below meth c nL z0 D cells slots Q n ad g pc L (.double y :: .double x :: st) := fun H locs ls hS hP hD hl => lv_ddiv X.1 X.2.1 d h0 (k H locs ls hS hP hD hl)
theorem v_dcon (X : vCx p s m args c cc own nL z0 D cy)  (d : decode cc pc = .ok (.dconst 0, 1))  (k : vV p l e R s m args below meth c nL z0 D cells slots Q n ad g (pc + 1) L (.double 0 :: st)) : vV p l e R s m args below meth c nL z0 D cells slots Q n ad g pc L st := fun H locs ls hS hP hD hl => lv_dconst0 X.1 X.2.1 d (k H locs ls hS hP hD hl)
theorem v_dcmp (X : vCx p s m args c cc own nL z0 D cy) {x y : UInt64} {op : CmpOp} (d : decode cc pc = .ok (.dcmp op, 1))  (k : vV p l e R s m args below meth c nL z0 D cells slots Q n ad g (pc + 1) L (.int (Op.cmpValue (FP.dcmp x y) op) :: st)) : vV p l e R s m args below meth c nL z0 D cells slots Q n ad g pc L (.double y :: .double x :: st) := fun H locs ls hS hP hD hl => lv_dcmp X.1 X.2.1 d (k H locs ls hS hP hD hl)
theorem v_dup (X : vCx p s m args c cc own nL z0 D cy) {v : Value} (d : decode cc pc = .ok (.dup, 1)) (hc : v.category = 1) (k : vV p l e R s m args below meth c nL z0 D cells slots Q n ad g (pc + 1) L (v :: v :: st)) : vV p l e R s m args below meth c nL z0 D cells slots Q n ad g pc L (v :: st) := fun H locs ls hS hP hD hl => lv_dup X.1 X.2.1 d hc (k H locs ls hS hP hD hl)
theorem v_pop (X : vCx p s m args c cc own nL z0 D cy) {v : Value} (d : decode cc pc = .ok (.pop, 1)) (hc : v.category = 1) (k : vV p l e R s m args below meth c nL z0 D cells slots Q n ad g (pc + 1) L st) : vV p l e R s m args below meth c nL z0 D cells slots Q n ad g pc L (v :: st) := fun H locs ls hS hP hD hl => lv_pop X.1 X.2.1 d hc (k H locs ls hS hP hD hl)
theorem v_dup_x1 (X : vCx p s m args c cc own nL z0 D cy) {v u : Value} (d : decode cc pc = .ok (.dup_x1, 1)) (hc : v.category = 1) (hd : u.category = 1) (k : vV p l e R s m args below meth c nL z0 D cells slots Q n ad g (pc + 1) L (v :: u :: v :: st)) : vV p l e R s m args below meth c nL z0 D cells slots Q n ad g pc L (v :: u :: st) := fun H locs ls hS hP hD hl => lv_dup_x1 X.1 X.2.1 d hc hd (k H locs ls hS hP hD hl)
theorem v_dup2 (X : vCx p s m args c cc own nL z0 D cy) {v u : Value} (d : decode cc pc = .ok (.dup2, 1)) (hc : v.category = 1) (hd : u.category = 1) (k : vV p l e R s m args below meth c nL z0 D cells slots Q n ad g (pc + 1) L (v :: u :: v :: u :: st)) : vV p l e R s m args below meth c nL z0 D cells slots Q n ad g pc L (v :: u :: st) := fun H locs ls hS hP hD hl => lv_dup2_11 X.1 X.2.1 d hc hd (k H locs ls hS hP hD hl)
theorem v_goto (X : vCx p s m args c cc own nL z0 D cy) {off : Int} {tgt : Nat} (d : decode cc pc = .ok (.goto off, 3)) (ht : (pc : Int) + off = (tgt : Int)) (k : vV p l e R s m args below meth c nL z0 D cells slots Q n ad g tgt L st) : vV p l e R s m args below meth c nL z0 D cells slots Q n ad g pc L st := fun H locs ls hS hP hD hl => lv_goto X.1 X.2.1 d ht (k H locs ls hS hP hD hl)
theorem v_if_eq (X : vCx p s m args c cc own nL z0 D cy) {x : Int32} {off : Int} {tgt : Nat} (d : decode cc pc = .ok (.ifCond .eq off, 3)) (ht : (pc : Int) + off = (tgt : Int)) (kt : x = 0 → vV p l e R s m args below meth c nL z0 D cells slots Q n ad g tgt L st) (kf : ¬ x = 0 → vV p l e R s m args below meth c nL z0 D cells slots Q n ad g (pc + 3) L st) : vV p l e R s m args below meth c nL z0 D cells slots Q n ad g pc L (.int x :: st) := fun H locs ls hS hP hD hl => lv_if_eq X.1 X.2.1 d ht (fun h => kt h H locs ls hS hP hD hl) (fun h => kf h H locs ls hS hP hD hl)
theorem v_icmp_eq (X : vCx p s m args c cc own nL z0 D cy) {x y : Int32} {off : Int} {tgt : Nat} (d : decode cc pc = .ok (.if_icmp .eq off, 3)) (ht : (pc : Int) + off = (tgt : Int)) (kt : x = y → vV p l e R s m args below meth c nL z0 D cells slots Q n ad g tgt L st) (kf : ¬ x = y → vV p l e R s m args below meth c nL z0 D cells slots Q n ad g (pc + 3) L st) : vV p l e R s m args below meth c nL z0 D cells slots Q n ad g pc L (.int y :: .int x :: st) := fun H locs ls hS hP hD hl => lv_icmp_eq X.1 X.2.1 d ht (fun h => kt h H locs ls hS hP hD hl) (fun h => kf h H locs ls hS hP hD hl)
theorem v_if_ne (X : vCx p s m args c cc own nL z0 D cy) {x : Int32} {off : Int} {tgt : Nat} (d : decode cc pc = .ok (.ifCond .ne off, 3)) (ht : (pc : Int) + off = (tgt : Int)) (kt : ¬ x = 0 → vV p l e R s m args below meth c nL z0 D cells slots Q n ad g tgt L st) (kf : x = 0 → vV p l e R s m args below meth c nL z0 D cells slots Q n ad g (pc + 3) L st) : vV p l e R s m args below meth c nL z0 D cells slots Q n ad g pc L (.int x :: st) := fun H locs ls hS hP hD hl => lv_if_ne X.1 X.2.1 d ht (fun h => kt h H locs ls hS hP hD hl) (fun h => kf h H locs ls hS hP hD hl)
theorem v_icmp_ne (X : vCx p s m args c cc own nL z0 D cy) {x y : Int32} {off : Int} {tgt : Nat} (d : decode cc pc = .ok (.if_icmp .ne off, 3)) (ht : (pc : Int) + off = (tgt : Int)) (kt : ¬ x = y → vV p l e R s m args below meth c nL z0 D cells slots Q n ad g tgt L st) (kf : x = y → vV p l e R s m args below meth c nL z0 D cells slots Q n ad g (pc + 3) L st) : vV p l e R s m args below meth c nL z0 D cells slots Q n ad g pc L (.int y :: .int x :: st) := fun H locs ls hS hP hD hl => lv_icmp_ne X.1 X.2.1 d ht (fun h => kt h H locs ls hS hP hD hl) (fun h => kf h H locs ls hS hP hD hl)
theorem v_if_lt (X : vCx p s m args c cc own nL z0 D cy) {x : Int32} {off : Int} {tgt : Nat} (d : decode cc pc = .ok (.ifCond .lt off, 3)) (ht : (pc : Int) + off = (tgt : Int)) (kt : x < 0 → vV p l e R s m args below meth c nL z0 D cells slots Q n ad g tgt L st) (kf : ¬ x < 0 → vV p l e R s m args below meth c nL z0 D cells slots Q n ad g (pc + 3) L st) : vV p l e R s m args below meth c nL z0 D cells slots Q n ad g pc L (.int x :: st) := fun H locs ls hS hP hD hl => lv_if_lt X.1 X.2.1 d ht (fun h => kt h H locs ls hS hP hD hl) (fun h => kf h H locs ls hS hP hD hl)
theorem v_icmp_lt (X : vCx p s m args c cc own nL z0 D cy) {x y : Int32} {off : Int} {tgt : Nat} (d : decode cc pc = .ok (.if_icmp .lt off, 3)) (ht : (pc : Int) + off = (tgt : Int)) (kt : x < y → vV p l e R s m args below meth c nL z0 D cells slots Q n ad g tgt L st) (kf : ¬ x < y → vV p l e R s m args below meth c nL z0 D cells slots Q n ad g (pc + 3) L st) : vV p l e R s m args below meth c nL z0 D cells slots Q n ad g pc L (.int y :: .int x :: st) := fun H locs ls hS hP hD hl => lv_icmp_lt X.1 X.2.1 d ht (fun h => kt h H locs ls hS hP hD hl) (fun h => kf h H locs ls hS hP hD hl)
theorem v_if_ge (X : vCx p s m args c cc own nL z0 D cy) {x : Int32} {off : Int} {tgt : Nat} (d : decode cc pc = .ok (.ifCond .ge off, 3)) (ht : (pc : Int) + off = (tgt : Int)) (kt : 0 ≤ x → vV p l e R s m args below meth c nL z0 D cells slots Q n ad g tgt L st) (kf : ¬ 0 ≤ x → vV p l e R s m args below meth c nL z0 D cells slots Q n ad g (pc + 3) L st) : vV p l e R s m args below meth c nL z0 D cells slots Q n ad g pc L (.int x :: st) := fun H locs ls hS hP hD hl => lv_if_ge X.1 X.2.1 d ht (fun h => kt h H locs ls hS hP hD hl) (fun h => kf h H locs ls hS hP hD hl)
theorem v_icmp_ge (X : vCx p s m args c cc own nL z0 D cy) {x y : Int32} {off : Int} {tgt : Nat} (d : decode cc pc = .ok (.if_icmp .ge off, 3)) (ht : (pc : Int) + off = (tgt : Int)) (kt : y ≤ x → vV p l e R s m args below meth c nL z0 D cells slots Q n ad g tgt L st) (kf : ¬ y ≤ x → vV p l e R s m args below meth c nL z0 D cells slots Q n ad g (pc + 3) L st) : vV p l e R s m args below meth c nL z0 D cells slots Q n ad g pc L (.int y :: .int x :: st) := fun H locs ls hS hP hD hl => lv_icmp_ge X.1 X.2.1 d ht (fun h => kt h H locs ls hS hP hD hl) (fun h => kf h H locs ls hS hP hD hl)
theorem v_if_gt (X : vCx p s m args c cc own nL z0 D cy) {x : Int32} {off : Int} {tgt : Nat} (d : decode cc pc = .ok (.ifCond .gt off, 3)) (ht : (pc : Int) + off = (tgt : Int)) (kt : 0 < x → vV p l e R s m args below meth c nL z0 D cells slots Q n ad g tgt L st) (kf : ¬ 0 < x → vV p l e R s m args below meth c nL z0 D cells slots Q n ad g (pc + 3) L st) : vV p l e R s m args below meth c nL z0 D cells slots Q n ad g pc L (.int x :: st) := fun H locs ls hS hP hD hl => lv_if_gt X.1 X.2.1 d ht (fun h => kt h H locs ls hS hP hD hl) (fun h => kf h H locs ls hS hP hD hl)
theorem v_icmp_gt (X : vCx p s m args c cc own nL z0 D cy) {x y : Int32} {off : Int} {tgt : Nat} (d : decode cc pc = .ok (.if_icmp .gt off, 3)) (ht : (pc : Int) + off = (tgt : Int)) (kt : y < x → vV p l e R s m args below meth c nL z0 D cells slots Q n ad g tgt L st) (kf : ¬ y < x → vV p l e R s m args below meth c nL z0 D cells slots Q n ad g (pc + 3) L st) : vV p l e R s m args below meth c nL z0 D cells slots Q n ad g pc L (.int y :: .int x :: st) := fun H locs ls hS hP hD hl => lv_icmp_gt X.1 X.2.1 d ht (fun h => kt h H locs ls hS hP hD hl) (fun h => kf h H locs ls hS hP hD hl)
theorem v_if_le (X : vCx p s m args c cc own nL z0 D cy) {x : Int32} {off : Int} {tgt : Nat} (d : decode cc pc = .ok (.ifCond .le off, 3)) (ht : (pc : Int) + off = (tgt : Int)) (kt : x ≤ 0 → vV p l e R s m args below meth c nL z0 D cells slots Q n ad g tgt L st) (kf : ¬ x ≤ 0 → vV p l e R s m args below meth c nL z0 D cells slots Q n ad g (pc + 3) L st) : vV p l e R s m args below meth c nL z0 D cells slots Q n ad g pc L (.int x :: st) := fun H locs ls hS hP hD hl => lv_if_le X.1 X.2.1 d ht (fun h => kt h H locs ls hS hP hD hl) (fun h => kf h H locs ls hS hP hD hl)
theorem v_icmp_le (X : vCx p s m args c cc own nL z0 D cy) {x y : Int32} {off : Int} {tgt : Nat} (d : decode cc pc = .ok (.if_icmp .le off, 3)) (ht : (pc : Int) + off = (tgt : Int)) (kt : x ≤ y → vV p l e R s m args below meth c nL z0 D cells slots Q n ad g tgt L st) (kf : ¬ x ≤ y → vV p l e R s m args below meth c nL z0 D cells slots Q n ad g (pc + 3) L st) : vV p l e R s m args below meth c nL z0 D cells slots Q n ad g pc L (.int y :: .int x :: st) := fun H locs ls hS hP hD hl => lv_icmp_le X.1 X.2.1 d ht (fun h => kt h H locs ls hS hP hD hl) (fun h => kf h H locs ls hS hP hD hl)
theorem v_get (X : vCx p s m args c cc own nL z0 D cy) {ref C : String} {T : u_T} {N ci index k fi : Nat} {fs : List Value} {v : Value} (d : decode cc pc = .ok (.getfield index, 3)) (hin : ∀ w ∈ u_ws C T N, w ∈ UW) (hlink : Cond.fieldLink own index ref (T fi).2.1 (T fi).2.2.1 ∈ UW) (hc : vwCl[ci]? = some (C, T, N)) (hfi : fi < N) (href : (T fi).1 = ref) (hg : vAt n g k (.inr (ci, fs))) (hv : fs[fi]? = some v) (kk : vV p l e R s m args below meth c nL z0 D cells slots Q n ad g (pc + 3) L (v :: st)) : vV p l e R s m args below meth c nL z0 D cells slots Q n ad g pc L (.ref (ad k) :: st) := fun H locs ls hS hP hD hl =>
  va_get X.1 X.2.1 X.2.2.2.2.1 hin X.2.2.2.1 X.2.2.2.2.2.1 hP k (wl_at hg) hc fi hfi (X.2.2.2.2.1 _ hlink) (fun _ h => href ▸ h) hv d (kk H locs ls hS hP hD hl)
theorem v_put (X : vCx p s m args c cc own nL z0 D cy) {ref C : String} {T : u_T} {N ci index k fi : Nat} {fs : List Value} {v : Value} {ty : FieldType} {ty0 : Nat → FieldType} (d : decode cc pc = .ok (.putfield index, 3)) (hin : ∀ w ∈ u_ws C T N, w ∈ UW) (hlink : Cond.fieldLink own index ref (T fi).2.1 (T fi).2.2.1 ∈ UW) (hty : ∀ k, k < N → parseFieldDescriptor (T k).2.2.1 = some (ty0 k)) (hnm : ∀ a, a < N → ∀ b, b < N → a ≠ b → (T a).2.1 ≠ (T b).2.1) (hc : vwCl[ci]? = some (C, T, N)) (hfi : fi < N) (href : (T fi).1 = ref) (hfin : (T fi).2.2.2 = false) (hd : parseFieldDescriptor (T fi).2.2.1 = some ty) (hg : vAt n g k (.inr (ci, fs))) (hn : narrow ty v = v) (hfit : fits ty v = true) (hlen : fi < fs.length) (kk : vV p l e R s m args below meth c nL z0 D cells slots Q n ad (va_up g k (.inr (ci, fs.set fi v))) (pc + 3) L st) : vV p l e R s m args below meth c nL z0 D cells slots Q n ad g pc L (v :: .ref (ad k) :: st) := fun H locs ls hS hP hD hl =>
  va_put X.1 X.2.1 X.2.2.2.2.1 hin ty0 hty hnm X.2.2.2.1 X.2.2.2.2.2.1 hP hD hS k (wl_at hg) hc fi hfi (X.2.2.2.2.1 _ hlink) (fun _ h => href ▸ h) hfin hd hn hfit hlen d (fun H1 locs1 hP1 hD1 hS1 => kk H1 locs1 ls hS1 (wl_set hg.1 ▸ hP1) (wl_set hg.1 ▸ hD1) hl)
theorem v_putF (X : vCx p s m args c cc own nL z0 D cy) {ref C : String} {T : u_T} {N ci index k fi : Nat} {fs : List Value} {v : Value} {ty : FieldType} {ty0 : Nat → FieldType} (d : decode cc pc = .ok (.putfield index, 3)) (hin : ∀ w ∈ u_ws C T N, w ∈ UW) (hlink : Cond.fieldLink own index ref (T fi).2.1 (T fi).2.2.1 ∈ UW) (hty : ∀ k, k < N → parseFieldDescriptor (T k).2.2.1 = some (ty0 k)) (hnm : ∀ a, a < N → ∀ b, b < N → a ≠ b → (T a).2.1 ≠ (T b).2.1) (hc : vwCl[ci]? = some (C, T, N)) (hfi : fi < N) (href : (T fi).1 = ref) (hfin : (T fi).2.2.2 = true) (hini : meth.name = "<init>") (hdec : (T fi).1 = own) (hd : parseFieldDescriptor (T fi).2.2.1 = some ty) (hg : vAt n g k (.inr (ci, fs))) (hn : narrow ty v = v) (hfit : fits ty v = true) (hlen : fi < fs.length) (kk : vV p l e R s m args below meth c nL z0 D cells slots Q n ad (va_up g k (.inr (ci, fs.set fi v))) (pc + 3) L st) : vV p l e R s m args below meth c nL z0 D cells slots Q n ad g pc L (v :: .ref (ad k) :: st) := fun H locs ls hS hP hD hl =>
  va_putF X.1 X.2.1 X.2.2.2.2.1 hin ty0 hty hnm X.2.2.2.1 X.2.2.2.2.2.1 hP hD hS k (wl_at hg) hc fi hfi (X.2.2.2.2.1 _ hlink) (fun _ h => href ▸ h) hfin hini hdec hd hn hfit hlen d (fun H1 locs1 hP1 hD1 hS1 => kk H1 locs1 ls hS1 (wl_set hg.1 ▸ hP1) (wl_set hg.1 ▸ hD1) hl)
theorem v_aald (X : vCx p s m args c cc own nL z0 D cy) {k t0 N j a : Nat} {C : String} {x : Int32} {f : Nat → Option Nat} (d : decode cc pc = .ok (.aaload, 1)) (ht : (tysV cy)[t0]? = some (cy t0, .object C)) (hg : vAt n g k (.inl (cy t0, N, .inr (.inr (.inr (.inr f)))))) (hx : x = nI j) (hj : j < N) (hN : N < 2 ^ 31) (hf : f j = some a) (kk : vV p l e R s m args below meth c nL z0 D cells slots Q n ad g (pc + 1) L (.ref a :: st)) : vV p l e R s m args below meth c nL z0 D cells slots Q n ad g pc L (.int x :: .ref (ad k) :: st) := fun H locs ls hS hP hD hl => by
  subst hx
  refine va_aldq X.1 X.2.1 X.2.2.2.2.2.1 hP k t0 (wl_at hg) ht (vp_in_nI hj hN) d ?_
  rw [nI_clamp (by omega), hf]
  exact kk H locs ls hS hP hD hl
theorem v_iald (X : vCx p s m args c cc own nL z0 D cy) {k N j : Nat} {x : Int32} {f : Nat → Int32} (d : decode cc pc = .ok (.iaload, 1)) (hg : vAt n g k (.inl (cy 0, N, .inl f))) (hx : x = nI j) (hj : j < N) (hN : N < 2 ^ 31) (kk : vV p l e R s m args below meth c nL z0 D cells slots Q n ad g (pc + 1) L (.int (f j) :: st)) : vV p l e R s m args below meth c nL z0 D cells slots Q n ad g pc L (.int x :: .ref (ad k) :: st) := fun H locs ls hS hP hD hl => by
  subst hx
  refine va_iald X.1 X.2.1 X.2.2.2.2.2.1 hP k 0 (wl_at hg) rfl (vp_in_nI hj hN) d ?_
  rw [nI_clamp (by omega)]
  exact kk H locs ls hS hP hD hl
theorem v_iast (X : vCx p s m args c cc own nL z0 D cy) {k N j : Nat} {x y : Int32} {f : Nat → Int32} (d : decode cc pc = .ok (.iastore, 1)) (hg : vAt n g k (.inl (cy 0, N, .inl f))) (hx : x = nI j) (hj : j < N) (hN : N < 2 ^ 31) (kk : vV p l e R s m args below meth c nL z0 D cells slots Q n ad (va_up g k (.inl (cy 0, N, .inl (upd f j y)))) (pc + 1) L st) : vV p l e R s m args below meth c nL z0 D cells slots Q n ad g pc L (.int y :: .int x :: .ref (ad k) :: st) := fun H locs ls hS hP hD hl => by
  subst hx
  refine va_iast X.1 X.2.1 X.2.2.2.2.2.1 hP hD hS k 0 (wl_at hg) rfl (vp_in_nI hj hN) d (fun H1 locs1 hP1 hD1 hS1 => ?_)
  rw [nI_clamp (by omega), wl_set hg.1] at hP1 hD1
  exact kk H1 locs1 ls hS1 hP1 hD1 hl
theorem v_lald (X : vCx p s m args c cc own nL z0 D cy) {k N j : Nat} {x : Int32} {f : Nat → Int64} (d : decode cc pc = .ok (.laload, 1)) (hg : vAt n g k (.inl (cy 1, N, .inr (.inl f)))) (hx : x = nI j) (hj : j < N) (hN : N < 2 ^ 31) (kk : vV p l e R s m args below meth c nL z0 D cells slots Q n ad g (pc + 1) L (.long (f j) :: st)) : vV p l e R s m args below meth c nL z0 D cells slots Q n ad g pc L (.int x :: .ref (ad k) :: st) := fun H locs ls hS hP hD hl => by
  subst hx
  refine va_lald X.1 X.2.1 X.2.2.2.2.2.1 hP k 1 (wl_at hg) rfl (vp_in_nI hj hN) d ?_
  rw [nI_clamp (by omega)]
  exact kk H locs ls hS hP hD hl
theorem v_last (X : vCx p s m args c cc own nL z0 D cy) {k N j : Nat} {x : Int32} {y : Int64} {f : Nat → Int64} (d : decode cc pc = .ok (.lastore, 1)) (hg : vAt n g k (.inl (cy 1, N, .inr (.inl f)))) (hx : x = nI j) (hj : j < N) (hN : N < 2 ^ 31) (kk : vV p l e R s m args below meth c nL z0 D cells slots Q n ad (va_up g k (.inl (cy 1, N, .inr (.inl (vp_updL f j y))))) (pc + 1) L st) : vV p l e R s m args below meth c nL z0 D cells slots Q n ad g pc L (.long y :: .int x :: .ref (ad k) :: st) := fun H locs ls hS hP hD hl => by
  subst hx
  refine va_last X.1 X.2.1 X.2.2.2.2.2.1 hP hD hS k 1 (wl_at hg) rfl (vp_in_nI hj hN) d (fun H1 locs1 hP1 hD1 hS1 => ?_)
  rw [nI_clamp (by omega), wl_set hg.1] at hP1 hD1
  exact kk H1 locs1 ls hS1 hP1 hD1 hl
theorem v_mmin (X : vCx p s m args c cc own nL z0 D cy) {index : Nat} {x y : Int32} (d : decode cc pc = .ok (.invokestatic index, 3)) (hlink : Cond.methodLink own index Lib.Math.min.name ∈ UW) (hstat : Cond.static Lib.Math.min.name ∈ UW) (hini : Cond.initialized "java/lang/Math" ∈ UW) (hcode : Cond.code Lib.Math.min.name Lib.Math.min.code 2 (some .int) ∈ UW) (hR : 1 ≤ R.frames ∧ (st.map fun v => v.category).sum + 13 ≤ R.locals ∧ cells ≤ R.cells ∧ slots ≤ R.slots) (kk : vV p l e R s m args below meth c nL z0 D cells slots Q n ad g (pc + 3) L (.int (if y < x then y else x) :: st)) : vV p l e R s m args below meth c nL z0 D cells slots Q n ad g pc L (.int y :: .int x :: st) := fun H locs ls hS hP hD hl =>
  va_mmin X.1 X.2.1 (X.2.2.1.trans hl.1.symm) X.2.2.2.1 (X.2.2.2.2.1 _ hlink) (X.2.2.2.2.1 _ hstat) (X.2.2.2.2.1 _ hini) (X.2.2.2.2.1 _ hcode) hR.1 hR.2.1 hR.2.2.1 hR.2.2.2 d (kk H locs ls hS hP hD hl)
theorem v_mmax (X : vCx p s m args c cc own nL z0 D cy) {index : Nat} {x y : Int32} (d : decode cc pc = .ok (.invokestatic index, 3)) (hlink : Cond.methodLink own index Lib.Math.max.name ∈ UW) (hstat : Cond.static Lib.Math.max.name ∈ UW) (hini : Cond.initialized "java/lang/Math" ∈ UW) (hcode : Cond.code Lib.Math.max.name Lib.Math.max.code 2 (some .int) ∈ UW) (hR : 1 ≤ R.frames ∧ (st.map fun v => v.category).sum + 13 ≤ R.locals ∧ cells ≤ R.cells ∧ slots ≤ R.slots) (kk : vV p l e R s m args below meth c nL z0 D cells slots Q n ad g (pc + 3) L (.int (if x < y then y else x) :: st)) : vV p l e R s m args below meth c nL z0 D cells slots Q n ad g pc L (.int y :: .int x :: st) := fun H locs ls hS hP hD hl =>
  va_mmax X.1 X.2.1 (X.2.2.1.trans hl.1.symm) X.2.2.2.1 (X.2.2.2.2.1 _ hlink) (X.2.2.2.2.1 _ hstat) (X.2.2.2.2.1 _ hini) (X.2.2.2.2.1 _ hcode) hR.1 hR.2.1 hR.2.2.1 hR.2.2.2 d (kk H locs ls hS hP hD hl)
theorem v_mabs (X : vCx p s m args c cc own nL z0 D cy) {index : Nat} {x : Int32} (d : decode cc pc = .ok (.invokestatic index, 3)) (hlink : Cond.methodLink own index Lib.Math.abs.name ∈ UW) (hstat : Cond.static Lib.Math.abs.name ∈ UW) (hini : Cond.initialized "java/lang/Math" ∈ UW) (hcode : Cond.code Lib.Math.abs.name Lib.Math.abs.code 1 (some .int) ∈ UW) (hR : 1 ≤ R.frames ∧ (st.map fun v => v.category).sum + 13 ≤ R.locals ∧ cells ≤ R.cells ∧ slots ≤ R.slots) (kk : vV p l e R s m args below meth c nL z0 D cells slots Q n ad g (pc + 3) L (.int (if 0 ≤ x then x else 0 - x) :: st)) : vV p l e R s m args below meth c nL z0 D cells slots Q n ad g pc L (.int x :: st) := fun H locs ls hS hP hD hl =>
  va_mabs X.1 X.2.1 (X.2.2.1.trans hl.1.symm) X.2.2.2.1 (X.2.2.2.2.1 _ hlink) (X.2.2.2.2.1 _ hstat) (X.2.2.2.2.1 _ hini) (X.2.2.2.2.1 _ hcode) hR.1 hR.2.1 hR.2.2.1 hR.2.2.2 d (kk H locs ls hS hP hD hl)
theorem v_tabIn (X : vCx p s m args c cc own nL z0 D cy) {dflt lo hi : Int} {offs : Array Int} {len : Nat} {x : Int32} {off : Int} {tgt : Nat} (d : decode cc pc = .ok (.tableswitch dflt lo hi offs, len)) (h1 : ¬ x.toInt < lo) (h2 : ¬ hi < x.toInt) (ho : offs[(x.toInt - lo).toNat]? = some off) (ht : (pc : Int) + off = (tgt : Int)) (kk : vV p l e R s m args below meth c nL z0 D cells slots Q n ad g tgt L st) : vV p l e R s m args below meth c nL z0 D cells slots Q n ad g pc L (.int x :: st) := fun H locs ls hS hP hD hl => lv_tableIn X.1 X.2.1 d h1 h2 ho ht (kk H locs ls hS hP hD hl)
theorem v_tabOut (X : vCx p s m args c cc own nL z0 D cy) {dflt lo hi : Int} {offs : Array Int} {len : Nat} {x : Int32} {tgt : Nat} (d : decode cc pc = .ok (.tableswitch dflt lo hi offs, len)) (h : x.toInt < lo ∨ hi < x.toInt) (ht : (pc : Int) + dflt = (tgt : Int)) (kk : vV p l e R s m args below meth c nL z0 D cells slots Q n ad g tgt L st) : vV p l e R s m args below meth c nL z0 D cells slots Q n ad g pc L (.int x :: st) := fun H locs ls hS hP hD hl => lv_tableOut X.1 X.2.1 d h ht (kk H locs ls hS hP hD hl)
theorem v_look (X : vCx p s m args c cc own nL z0 D cy) {dflt : Int} {ps : Array (Int × Int)} {len : Nat} {x : Int32} {off : Int} {tgt : Nat} (d : decode cc pc = .ok (.lookupswitch dflt ps, len)) (hp : (ps.toList.zip (ps.toList.drop 1)).all (fun (a, next) => a.1 < next.1) = true) (ho : Op.lookupswitch.offset ps.toList dflt x.toInt = off) (ht : (pc : Int) + off = (tgt : Int)) (kk : vV p l e R s m args below meth c nL z0 D cells slots Q n ad g tgt L st) : vV p l e R s m args below meth c nL z0 D cells slots Q n ad g pc L (.int x :: st) := fun H locs ls hS hP hD hl => lv_lookup X.1 X.2.1 d hp ho ht (kk H locs ls hS hP hD hl)
theorem v_ldc2 (X : vCx p s m args c cc own nL z0 D cy) {index : Nat} {v : Int64} (d : decode cc pc = .ok (.ldc2_w index, 3)) (hc : Cond.constantLong own index v ∈ UW) (kk : vV p l e R s m args below meth c nL z0 D cells slots Q n ad g (pc + 3) L (.long v :: st)) : vV p l e R s m args below meth c nL z0 D cells slots Q n ad g pc L st := fun H locs ls hS hP hD hl => lv_ldc2 X.1 X.2.1 X.2.2.2.1 (X.2.2.2.2.1 _ hc) d (kk H locs ls hS hP hD hl)
end VJ
end
section
/-! contracts by worlds -/
abbrev CtP : Type := Option Value → Nat → (Nat → Nat) → (Nat → va_E) → Prop
def wd (z0 : Nat) (D : va_G) (cy : Nat → ClassId) (n : Nat) (ad : Nat → Nat) (g : Nat → va_E) (U : State) : Prop := z0 ≤ U.heap.size ∧ va_P D vwCl (wl n ad g) U.heap ∧ va_D (fun q => z0 ≤ q) (wl n ad g) ∧ va_K D vwCl (tysV cy) U ∧ xF z0 U
def QcR (z0 : Nat) (D : va_G) (P : CtP) : Array Value → State → Outcome → State → Prop := fun _ st o t => (∃ (r : Option Value) (n' : Nat) (ad' : Nat → Nat) (g' : Nat → va_E), o = .returned r ∧ P r n' ad' g' ∧ va_P D vwCl (wl n' ad' g') t.heap ∧ va_D (fun q => z0 ≤ q) (wl n' ad' g')) ∧ va_F (fun q => z0 ≤ q) st t
def CtG (l : Launch) (y : MethodName) (cc : ByteArray) (maxL : Nat) (ret : Option FieldType) (rm : Room) (z0 : Nat) (D : va_G) (cy : Nat → ClassId) (n : Nat) (ad : Nat → Nat) (g : Nat → va_E) (av : List Value) (P : CtP) (mc ms : Nat) : Prop :=
  Met l y (.code y cc maxL ret :: UW) rm (va_Pc av (wd z0 D cy n ad g)) (QcR z0 D P) mc ms (fun q => z0 ≤ q)
/-- the answer and the world behind it, told outright -/
abbrev isR (r : Option Value) (n : Nat) (ad : Nat → Nat) (g : Nat → va_E) : CtP := fun r' n' ad' g' => r' = r ∧ n' = n ∧ ad' = ad ∧ g' = g
abbrev Ct (l : Launch) (y : MethodName) (cc : ByteArray) (maxL : Nat) (ret : Option FieldType) (rm : Room) (z0 : Nat) (D : va_G) (cy : Nat → ClassId) (n : Nat) (ad : Nat → Nat) (g : Nat → va_E) (av : List Value) (r : Option Value) (g' : Nat → va_E) : Prop :=
  CtG l y cc maxL ret rm z0 D cy n ad g av (isR r n ad g') rm.cells rm.slots
theorem UW_good {y : MethodName} {cc : ByteArray} {maxL : Nat} {ret : Option FieldType} (h : Cond.code y cc maxL ret ∈ UW) : GoodIn UW (.code y cc maxL ret :: UW) := by
  intro w hw
  rcases List.mem_cons.mp hw with rfl | hw
  · exact ⟨h, good_of_word (List.mem_filter.mp h).2⟩
  · exact ⟨hw, good_of_word (List.mem_filter.mp hw).2⟩
theorem UW_goodL {ws : List Cond} (h : ∀ w ∈ ws, w ∈ UW) : GoodIn UW ws := fun w hw => ⟨h w hw, good_of_word (List.mem_filter.mp (h w hw)).2⟩
theorem wd.blind {z0 : Nat} {D : va_G} {cy : Nat → ClassId} {n : Nat} {ad : Nat → Nat} {g : Nat → va_E} {av : List Value} : FrameBlind (va_Pc av (wd z0 D cy n ad g)) := fun a U gg mk q => ⟨q.1, q.2.1, q.2.2.1, q.2.2.2.1, va_K.moved (u := U) (U := U.calling gg mk a) (Vm.Alike.refl U.vm) q.2.2.2.2.1, q.2.2.2.2.2.calling⟩
section CV
variable {p : Program} {l : Launch} {e : Env} {R : Room} {s : State} {m : MethodId} {args : Array Value} {below : List Frame} {meth : Method} {c : Code} {cells slots : Nat} {Q : State → Prop}
variable {cc : ByteArray} {own : String} {nL z0 n pc : Nat} {D : va_G} {cy : Nat → ClassId} {ad : Nat → Nat} {g : Nat → va_E} {L : List (Option Value)} {st : List Value}
variable {y : MethodName} {bytes : ByteArray} {maxL mc ms : Nat} {ret : Option FieldType} {rm : Room} {P : CtP}
theorem vCx.pre {av : List Value} {H : Heap} {locs : List Loc} (X : vCx p s m args c cc own nL z0 D cy) (hS : va_S (fun q => z0 ≤ q) s.heap H locs) (hP : va_P D vwCl (wl n ad g) H) (hD : va_D (fun q => z0 ≤ q) (wl n ad g)) : ∀ U : State, U.heap = H → s.WarmedH U.vm → va_Pc av (wd z0 D cy n ad g) av.toArray U := by
  intro U hU hW
  refine ⟨rfl, by rw [hU]; exact Nat.le_trans X.2.2.2.2.2.2.1 hS.1, by rw [hU]; exact hP, hD, va_K.moved hW.alike X.2.2.2.2.2.1, xF.next hW (fun a ha hna => ?_) X.2.2.2.2.2.2.2⟩
  rw [hU]
  exact hS.2.1 a ha hna
theorem ct_of {av : List Value} (hy : plainName y.cls = true) (k : Nat) (L : List (Option Value)) (hlen : (lg_sl av).length ≤ maxL) (hL : argsL av ++ List.replicate k none = L)
    (body : ∀ (p : Program) (e : Env) (s : State) (m : MethodId) (below : List Frame) (meth : Method) (c : Code), vCx p s m av.toArray c bytes y.cls maxL z0 D cy → meth.sig.returnType = ret → meth.locks = false → meth.name = y.name →
      vV p l e rm s m av.toArray below meth c maxL z0 D 0 0 (MQ below (QcR z0 D P) av.toArray s mc ms (fun q => z0 ≤ q)) n ad g 0 L []) : CtG l y bytes maxL ret rm z0 D cy n ad g av P mc ms := by
  refine Met.ofW (cc := bytes) (maxL := maxL) (ret := ret) hy rfl ?_
  intro p e s m args below meth c s₁ B hml hv
  obtain ⟨rfl, hz, hP, hD, hK, hF⟩ := hv
  have hts := atoms_spec (ws := .code y bytes maxL ret :: UW) B.pre
  have hown : s.vm.findClass y.cls = some m.cls := findClass_of_methodNamed B.named
  have hl := hasL_entry hlen hL
  rw [lg_entry_eq]
  exact body p e s m below meth c ⟨B.exec, B.bytes, hml, hown, fun w h => hts w (List.mem_cons_of_mem _ h), hK, hz, hF⟩ B.returns B.notSynchronized (name_of_methodNamed B.named B.method).1 s.heap [] _ va_S.rf hP hD hl
theorem v_iret (X : vCx p s m args c cc own nL z0 D cy) {x : Int32} (hr : meth.sig.returnType = some .int) (hlk : meth.locks = false) (d : decode cc pc = .ok (.ireturn, 1)) (hP : P (some (.int x)) n ad g) : vV p l e R s m args below meth c nL z0 D cells slots (MQ below (QcR z0 D P) args s cells slots (fun q => z0 ≤ q)) n ad g pc L [.int x] := fun H locs ls hS hPP hD hl =>
  W.iret X.1 X.2.1 hr (fun t ht hW => ⟨⟨_, n, ad, g, rfl, hP, by rw [ht]; exact hPP, hD⟩, hS.F ht⟩) hS.2.2 d hlk
theorem v_zret (X : vCx p s m args c cc own nL z0 D cy) {x : Int32} (hr : meth.sig.returnType = some .boolean) (hlk : meth.locks = false) (d : decode cc pc = .ok (.ireturn, 1)) (hx : narrow .boolean (.int x) = .int x) (hP : P (some (.int x)) n ad g) : vV p l e R s m args below meth c nL z0 D cells slots (MQ below (QcR z0 D P) args s cells slots (fun q => z0 ≤ q)) n ad g pc L [.int x] := fun H locs ls hS hPP hD hl =>
  W.zret X.1 X.2.1 hr hx (fun t ht hW => ⟨⟨_, n, ad, g, rfl, hP, by rw [ht]; exact hPP, hD⟩, hS.F ht⟩) hS.2.2 d hlk
theorem v_lret (X : vCx p s m args c cc own nL z0 D cy) {x : Int64} (hr : meth.sig.returnType = some .long) (hlk : meth.locks = false) (d : decode cc pc = .ok (.lreturn, 1)) (hP : P (some (.long x)) n ad g) : vV p l e R s m args below meth c nL z0 D cells slots (MQ below (QcR z0 D P) args s cells slots (fun q => z0 ≤ q)) n ad g pc L [.long x] := fun H locs ls hS hPP hD hl =>
  W.lret X.1 X.2.1 hr (fun t ht hW => ⟨⟨_, n, ad, g, rfl, hP, by rw [ht]; exact hPP, hD⟩, hS.F ht⟩) hS.2.2 d hlk
theorem v_dret (X : vCx p s m args c cc own nL z0 D cy) {x : UInt64} (hr : meth.sig.returnType = some .double) (hlk : meth.locks = false) (d : decode cc pc = .ok (.dreturn, 1)) (hP : P (some (.double x)) n ad g) : vV p l e R s m args below meth c nL z0 D cells slots (MQ below (QcR z0 D P) args s cells slots (fun q => z0 ≤ q)) n ad g pc L [.double x] := fun H locs ls hS hPP hD hl =>
  W.dret X.1 X.2.1 hr (fun t ht hW => ⟨⟨_, n, ad, g, rfl, hP, by rw [ht]; exact hPP, hD⟩, hS.F ht⟩) hS.2.2 d hlk
theorem v_vret (X : vCx p s m args c cc own nL z0 D cy) (hr : meth.sig.returnType = none) (hlk : meth.locks = false) (d : decode cc pc = .ok (.return_, 1)) (hP : P none n ad g) : vV p l e R s m args below meth c nL z0 D cells slots (MQ below (QcR z0 D P) args s cells slots (fun q => z0 ≤ q)) n ad g pc L [] := fun H locs ls hS hPP hD hl =>
  W.vret X.1 X.2.1 hr (fun t ht hW => ⟨⟨_, n, ad, g, rfl, hP, by rw [ht]; exact hPP, hD⟩, hS.F ht⟩) hS.2.2 d hlk
theorem v_aret (X : vCx p s m args c cc own nL z0 D cy) {a : Nat} {rt : FieldType} (hr : meth.sig.returnType = some rt) (hrt : (∃ n, rt = .object n) ∨ ∃ t, rt = .array t) (hlk : meth.locks = false) (d : decode cc pc = .ok (.areturn, 1)) (hP : P (some (.ref a)) n ad g) : vV p l e R s m args below meth c nL z0 D cells slots (MQ below (QcR z0 D P) args s cells slots (fun q => z0 ≤ q)) n ad g pc L [.ref a] := fun H locs ls hS hPP hD hl =>
  W.aret X.1 X.2.1 hr hrt (Or.inr ⟨a, rfl⟩) (fun t ht hW => ⟨⟨_, n, ad, g, rfl, hP, by rw [ht]; exact hPP, hD⟩, hS.F ht⟩) hS.2.2 d hlk
/-- behind a call -/
theorem v_ofRun {H : Heap} {locs : List Loc} {ls : Array Slot} {st0 : List Value} {a : Array Value} (hr : va_Run p l e R s m args below meth c H locs cells slots mc ms (F0 m pc ls st0) st (QcR z0 D P a) (fun q => z0 ≤ q)) (hS : va_S (fun q => z0 ≤ q) s.heap H locs) (hl : hasL ls nL L)
    (kk : ∀ (r : Option Value) (n' : Nat) (ad' : Nat → Nat) (g' : Nat → va_E), P r n' ad' g' → vV p l e R s m args below meth c nL z0 D (cells + mc) (slots + ms) Q n' ad' g' (pc + 3) L (r.toList ++ st)) : W p l e R s m args below meth c H locs cells slots Q (F0 m pc ls st0) := by
  intro T hT X
  obtain ⟨v, st₀, t, T', LL, h0, X', hL, e1, e2, ⟨⟨r, n', ad', g', hv, hp, hP1, hD1⟩, hz, hk⟩, hst⟩ := hr T hT X
  cases hv
  rw [h0] at hz hk
  rw [← e1] at hP1
  obtain ⟨t2, a1, b1⟩ := kk v n' ad' g' hp T'.heap (locs ++ LL) ls
    ⟨Nat.le_trans hS.1 (by rw [e1]; exact hz), fun q h1 h2 => by rw [e1, hk q (Nat.lt_of_lt_of_le h1 hS.1) h2]; exact hS.2.1 q h1 h2, fun q hq => by
      rcases List.mem_append.mp hq with h | h
      · exact hS.2.2 q h
      · exact hL q h⟩ hP1 hD1 hl T' rfl X'
  exact ⟨t2, hst t2 a1, b1⟩
theorem v_callV (X : vCx p s m args c cc own nL z0 D cy) {C : String} {T : u_T} {idx k ci N : Nat} {fs As st0 : List Value} (wm : Cond.methodLink own idx y ∈ UW) (wi : Cond.instanceMethod y ∈ UW) (wsl : Cond.selects C y y ∈ UW) (wz : Cond.initialized C ∈ UW) (wc : Cond.code y bytes maxL ret ∈ UW)
    (hd : y.cls = C ∧ y.cls ≠ "java/lang/invoke/MethodHandle" ∧ y.cls ≠ "java/lang/invoke/VarHandle" ∧ (parseMethodDescriptor y.desc).map (fun d => d.parameters.length) = some As.length) (hci : vwCl[ci]? = some (C, T, N))
    (d : decode cc pc = .ok (.invokevirtual idx, 3)) (hM : CtG l y bytes maxL ret rm z0 D cy n ad g (.ref (ad k) :: As) P mc ms) (hrecv : vAt n g k (.inr (ci, fs))) (hs : st0 = As.reverse ++ .ref (ad k) :: st) (hst : (st.map fun v => v.category).sum ≤ 8)
    (hR : rm.cells = mc ∧ rm.slots = ms ∧ rm.frames + 1 ≤ R.frames ∧ 8 + (maxL + 11) + rm.locals ≤ R.locals ∧ cells + mc ≤ R.cells ∧ slots + ms ≤ R.slots)
    (kk : ∀ (r : Option Value) (n' : Nat) (ad' : Nat → Nat) (g' : Nat → va_E), P r n' ad' g' → vV p l e R s m args below meth c nL z0 D (cells + mc) (slots + ms) Q n' ad' g' (pc + 3) L (r.toList ++ st)) : vV p l e R s m args below meth c nL z0 D cells slots Q n ad g pc L st0 := fun H locs ls hS hPP hD hl =>
  v_ofRun (va_runV (As := As) (rest := st) ⟨X.1, X.2.1, X.2.2.1, X.2.2.2.1, X.2.2.2.2.1⟩ hM (cwV As.length X.2.2.2.2.1 (UW_goodL (fun w hw => by
      rcases List.mem_append.mp hw with h | h
      · rcases List.mem_cons.mp h with rfl | h
        · exact wm
        rcases List.mem_cons.mp h with rfl | h
        · exact wi
        rcases List.mem_cons.mp h with rfl | h
        · exact wsl
        rcases List.mem_cons.mp h with rfl | h
        · exact wz
        cases h
      · rcases List.mem_cons.mp h with rfl | h
        · exact wc
        · exact h)) rfl hR.1 hR.2.1 hd ⟨hR.2.2.1, hR.2.2.2.1⟩) ⟨wd.blind, va_recv X.2.2.2.2.2.1 hPP hci (wl_at hrecv), X.pre hS hPP hD⟩ rfl rfl hl.1 hs (lv_room hst) d ⟨hR.2.2.2.2.1, hR.2.2.2.2.2⟩) hS hl kk
theorem v_callS (X : vCx p s m args c cc own nL z0 D cy) {idx : Nat} {As st0 : List Value} (wm : Cond.methodLink own idx y ∈ UW) (wt : Cond.static y ∈ UW) (wz : Cond.initialized y.cls ∈ UW) (wc : Cond.code y bytes maxL ret ∈ UW)
    (hd : y.cls ≠ "java/lang/invoke/MethodHandle" ∧ y.cls ≠ "java/lang/invoke/VarHandle" ∧ (parseMethodDescriptor y.desc).map (fun d => d.parameters.length) = some As.length)
    (d : decode cc pc = .ok (.invokestatic idx, 3)) (hM : CtG l y bytes maxL ret rm z0 D cy n ad g As P mc ms) (hs : st0 = As.reverse ++ st) (hst : (st.map fun v => v.category).sum ≤ 8)
    (hR : rm.cells = mc ∧ rm.slots = ms ∧ rm.frames + 1 ≤ R.frames ∧ 8 + (maxL + 11) + rm.locals ≤ R.locals ∧ cells + mc ≤ R.cells ∧ slots + ms ≤ R.slots)
    (kk : ∀ (r : Option Value) (n' : Nat) (ad' : Nat → Nat) (g' : Nat → va_E), P r n' ad' g' → vV p l e R s m args below meth c nL z0 D (cells + mc) (slots + ms) Q n' ad' g' (pc + 3) L (r.toList ++ st)) : vV p l e R s m args below meth c nL z0 D cells slots Q n ad g pc L st0 := fun H locs ls hS hPP hD hl =>
  v_ofRun (va_runS (As := As) (rest := st) ⟨X.1, X.2.1, X.2.2.1, X.2.2.2.1, X.2.2.2.2.1⟩ hM ⟨callB_of As.length X.2.2.2.2.1 (UW_good wc) rfl hR.1 hR.2.1 (X.2.2.2.2.1 _ wz) (X.2.2.2.2.1 _ wm) hd ⟨hR.2.2.1, hR.2.2.2.1⟩, X.2.2.2.2.1 _ wt⟩ ⟨wd.blind, X.pre hS hPP hD⟩ rfl rfl hl.1 hs (lv_room hst) d ⟨hR.2.2.2.2.1, hR.2.2.2.2.2⟩) hS hl kk
theorem v_callI (X : vCx p s m args c cc own nL z0 D cy) {idx k : Nat} {As st0 : List Value} (wm : Cond.methodLink own idx y ∈ UW) (wi : Cond.instanceMethod y ∈ UW) (wz : Cond.initialized y.cls ∈ UW) (wc : Cond.code y bytes maxL none ∈ UW) (hy1 : y.name = "<init>")
    (hd : y.cls ≠ "java/lang/invoke/MethodHandle" ∧ y.cls ≠ "java/lang/invoke/VarHandle" ∧ (parseMethodDescriptor y.desc).map (fun d => d.parameters.length) = some As.length)
    (d : decode cc pc = .ok (.invokespecial idx, 3)) (hM : CtG l y bytes maxL none rm z0 D cy n ad g (.ref (ad k) :: As) P mc ms) (hs : st0 = As.reverse ++ .ref (ad k) :: st) (hst : (st.map fun v => v.category).sum ≤ 8)
    (hR : rm.cells = mc ∧ rm.slots = ms ∧ rm.frames + 1 ≤ R.frames ∧ 8 + (maxL + 11) + rm.locals ≤ R.locals ∧ cells + mc ≤ R.cells ∧ slots + ms ≤ R.slots)
    (kk : ∀ (r : Option Value) (n' : Nat) (ad' : Nat → Nat) (g' : Nat → va_E), P r n' ad' g' → vV p l e R s m args below meth c nL z0 D (cells + mc) (slots + ms) Q n' ad' g' (pc + 3) L (r.toList ++ st)) : vV p l e R s m args below meth c nL z0 D cells slots Q n ad g pc L st0 := fun H locs ls hS hPP hD hl =>
  v_ofRun (va_runI (As := As) (rest := st) ⟨X.1, X.2.1, X.2.2.1, X.2.2.2.1, X.2.2.2.2.1⟩ hM (cwI As.length X.2.2.2.2.1 (UW_good wc) rfl hR.1 hR.2.1 (X.2.2.2.2.1 _ wz) (X.2.2.2.2.1 _ wm) (X.2.2.2.2.1 _ wi) hy1 hd ⟨hR.2.2.1, hR.2.2.2.1⟩) ⟨wd.blind, X.pre hS hPP hD⟩ rfl rfl hl.1 hs (lv_room hst) d ⟨hR.2.2.2.2.1, hR.2.2.2.2.2⟩) hS hl kk
theorem v_callIN (X : vCx p s m args c cc own nL z0 D cy) {idx k : Nat} {host : String} {As st0 : List Value} (wm : va_Nw (.methodLinkNest own idx y host) s) (wi : Cond.instanceMethod y ∈ UW) (wz : Cond.initialized y.cls ∈ UW) (wc : Cond.code y bytes maxL none ∈ UW) (hy1 : y.name = "<init>")
    (hd : y.cls ≠ "java/lang/invoke/MethodHandle" ∧ y.cls ≠ "java/lang/invoke/VarHandle" ∧ (parseMethodDescriptor y.desc).map (fun d => d.parameters.length) = some As.length)
    (d : decode cc pc = .ok (.invokespecial idx, 3)) (hM : CtG l y bytes maxL none rm z0 D cy n ad g (.ref (ad k) :: As) P mc ms) (hs : st0 = As.reverse ++ .ref (ad k) :: st) (hst : (st.map fun v => v.category).sum ≤ 8)
    (hR : rm.cells = mc ∧ rm.slots = ms ∧ rm.frames + 1 ≤ R.frames ∧ 8 + (maxL + 11) + rm.locals ≤ R.locals ∧ cells + mc ≤ R.cells ∧ slots + ms ≤ R.slots)
    (kk : ∀ (r : Option Value) (n' : Nat) (ad' : Nat → Nat) (g' : Nat → va_E), P r n' ad' g' → vV p l e R s m args below meth c nL z0 D (cells + mc) (slots + ms) Q n' ad' g' (pc + 3) L (r.toList ++ st)) : vV p l e R s m args below meth c nL z0 D cells slots Q n ad g pc L st0 := fun H locs ls hS hPP hD hl =>
  v_ofRun (va_runIN (As := As) (rest := st) ⟨X.1, X.2.1, X.2.2.1, X.2.2.2.1, X.2.2.2.2.1⟩ hM ⟨va_cnB As.length X.2.2.2.2.1 (UW_good wc) rfl hR.1 hR.2.1 wm (X.2.2.2.2.1 _ wz) hd ⟨hR.2.2.1, hR.2.2.2.1⟩, hy1, X.2.2.2.2.1 _ wi⟩ ⟨wd.blind, X.pre hS hPP hD⟩ rfl rfl hl.1 hs (lv_room hst) d ⟨hR.2.2.2.2.1, hR.2.2.2.2.2⟩) hS hl kk
end CV
end
section
theorem i_vc : Claimed_1_1 ∧ Claimed_1_2 := sorry
end
