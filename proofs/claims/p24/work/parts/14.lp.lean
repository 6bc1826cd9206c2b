/-! loops -/
def itr {S : Type} (f : Nat → S → S) : Nat → Nat → S → S
  | _, 0, s => s
  | i, k + 1, s => itr f (i + 1) k (f i s)
theorem loop_up {S : Type} (f : Nat → S → S) (P : Nat → S → Prop) (N : Nat) (hs : ∀ i s, i < N → P (i + 1) (f i s) → P i s) : ∀ (k i : Nat) (s : S), i + k = N → P N (itr f i k s) → P i s
  | 0, i, s, h, hp => by
    have : i = N := by omega
    subst this
    exact hp
  | k + 1, i, s, h, hp => hs i s (by omega) (loop_up f P N hs k (i + 1) (f i s) (by omega) hp)
/-- with what stays true on the way -/
theorem loop_inv {S : Type} (f : Nat → S → S) (I : Nat → S → Prop) (P : Nat → S → Prop) (N : Nat) (hI : ∀ i s, i < N → I i s → I (i + 1) (f i s)) (hs : ∀ i s, i < N → I i s → P (i + 1) (f i s) → P i s) : ∀ (k i : Nat) (s : S), i + k = N → I i s → (I N (itr f i k s) → P N (itr f i k s)) → P i s
  | 0, i, s, h, hi, hp => by
    have : i = N := by omega
    subst this
    exact hp hi
  | k + 1, i, s, h, hi, hp => hs i s (by omega) hi (loop_inv f I P N hI hs k (i + 1) (f i s) (by omega) (hI i s (by omega) hi) hp)
theorem itr_inv {S : Type} (f : Nat → S → S) (I : Nat → S → Prop) (N : Nat) (hI : ∀ i s, i < N → I i s → I (i + 1) (f i s)) : ∀ (k i : Nat) (s : S), i + k = N → I i s → I N (itr f i k s)
  | 0, i, s, h, hi => by
    have : i = N := by omega
    subst this
    exact hi
  | k + 1, i, s, h, hi => itr_inv f I N hI k (i + 1) (f i s) (by omega) (hI i s (by omega) hi)
theorem itr_congr {S : Type} {f f' : Nat → S → S} (I : Nat → S → Prop) (N : Nat) (hI : ∀ i s, i < N → I i s → I (i + 1) (f i s)) (hf : ∀ i s, i < N → I i s → f i s = f' i s) : ∀ (k i : Nat) (s : S), i + k = N → I i s → itr f i k s = itr f' i k s
  | 0, i, s, h, hi => rfl
  | k + 1, i, s, h, hi => by
    show itr f (i + 1) k (f i s) = itr f' (i + 1) k (f' i s)
    rw [← hf i s (by omega) hi]
    exact itr_congr I N hI hf k (i + 1) (f i s) (by omega) (hI i s (by omega) hi)
theorem itr_last {S : Type} (f : Nat → S → S) : ∀ (k i : Nat) (s : S), itr f i (k + 1) s = f (i + k) (itr f i k s)
  | 0, i, s => rfl
  | k + 1, i, s => by
    show itr f (i + 1) (k + 1) (f i s) = f (i + (k + 1)) (itr f (i + 1) k (f i s))
    rw [itr_last f k (i + 1) (f i s), show i + 1 + k = i + (k + 1) by omega]
/-! small numbers -/
theorem nI_inc (i : Nat) : nI i + Int32.ofInt 1 = nI (i + 1) := nI_1 i
theorem nIge {i N : Nat} (h : i < N) (hN : N < 2 ^ 31) : ¬ nI N ≤ nI i := nI_ge h hN
theorem rem28 {d : Nat} (h : d < 2 ^ 31) : nI d - nI d / 28 * 28 = nI (d % 28) := pk_rem (d := 28) h (by decide) (by decide)
theorem xor28 {d : Nat} (h : d < 2 ^ 31) : (0 : Int32) ≤ nI d ^^^ 28 := by
  have e : nI d ^^^ 28 = nI (d ^^^ 28) := by
    apply Int32.toBitVec_inj.mp
    apply BitVec.eq_of_toNat_eq
    show (BitVec.ofNat 32 d ^^^ BitVec.ofNat 32 28).toNat = (BitVec.ofNat 32 (d ^^^ 28)).toNat
    have h2 : d ^^^ 28 < 2 ^ 31 := Nat.xor_lt_two_pow h (by decide)
    rw [BitVec.toNat_xor, BitVec.toNat_ofNat, BitVec.toNat_ofNat, BitVec.toNat_ofNat, Nat.mod_eq_of_lt (by omega), Nat.mod_eq_of_lt (by decide), Nat.mod_eq_of_lt (by omega)]
  rw [e]
  exact nI_pos' (Nat.xor_lt_two_pow h (by decide))
def isB (x : Int32) : Prop := x = 0 ∨ x = 1
theorem isB_n {x : Int32} (h : isB x) : narrow .boolean (.int x) = .int x := by
  rcases h with h | h <;> subst h <;> rfl
theorem isB_f {x : Int32} (h : isB x) : fits .boolean (.int x) = true := by
  rcases h with h | h <;> subst h <;> decide
theorem isB_if {c : Prop} [Decidable c] : isB (if c then 1 else 0) := by
  unfold isB
  split
  · exact Or.inr rfl
  · exact Or.inl rfl
/-! a method of the JDK's, walked like one's own -/
theorem ct_ofF {l : Launch} {y : MethodName} {bytes : ByteArray} {maxL mc ms z0 n : Nat} {ret : Option FieldType} {rm : Room} {D : va_G} {cy : Nat → ClassId} {ad : Nat → Nat} {g : Nat → va_E} {P : CtP} {av : List Value} (hy : plainFor y = true) (k : Nat) (L : List (Option Value)) (hlen : (lg_sl av).length ≤ maxL) (hL : argsL av ++ List.replicate k none = L)
    (body : ∀ (p : Program) (e : Env) (s : State) (m : MethodId) (below : List Frame) (meth : Method) (c : Code), vCx p s m av.toArray c bytes y.cls maxL z0 D cy → meth.sig.returnType = ret → meth.locks = false → meth.name = y.name →
      vV p l e rm s m av.toArray below meth c maxL z0 D 0 0 (MQ below (QcR z0 D P) av.toArray s mc ms (fun q => z0 ≤ q)) n ad g 0 L []) : CtG l y bytes maxL ret rm z0 D cy n ad g av P mc ms := by
  unfold CtG Met
  refine MetFree.of_bodySF (code := bytes) (maxLocals := maxL) (ret := ret) hy ?_ ?_
  · intro args s m h hn
    obtain ⟨meth, c, h1, h2, h3, h4, h5, h6, -, -⟩ := Cond.code_spec hn (atoms_spec (ws := .code y bytes maxL ret :: UW) h _ List.mem_cons_self)
    exact ⟨meth, c, h1, h2, h3, h4, h5, h6⟩
  · intro p e s m args below meth c s₁ B hml hv _
    obtain ⟨rfl, hz, hP, hD, hK, hF⟩ := hv
    have hh0 : s₁.heap = s.heap := by rw [B.state]; rfl
    have hts := atoms_spec (ws := .code y bytes maxL ret :: UW) B.pre
    have hown : s.vm.findClass y.cls = some m.cls := findClass_of_methodNamed B.named
    have hl := hasL_entry hlen hL
    have hw : W p l e rm s m av.toArray below meth c s.heap [] 0 0 (MQ below (QcR z0 D P) av.toArray s mc ms (fun q => z0 ≤ q)) (entryFrame m av.toArray maxL) := by
      rw [lg_entry_eq]
      exact body p e s m below meth c ⟨B.exec, B.bytes, hml, hown, fun w h => hts w (List.mem_cons_of_mem _ h), hK, hz, hF⟩ B.returns B.notSynchronized (name_of_methodNamed B.named B.method).1 s.heap [] _ va_S.rf hP hD hl
    obtain ⟨t, a1, o, b1, b2, b3⟩ := hw s₁ hh0 (Stand.of_body B)
    exact ⟨t, o, a1, b1, b2, ⟨b3.1, b3.2⟩⟩
