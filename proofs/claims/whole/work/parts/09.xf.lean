/-! what else a throwing or making method rests on: words that are no good words, statics, texts; it stays as the tables warm and the heap below z0 stays -/
def xDecl : List MethodName := [⟨"java/lang/RuntimeException", "<init>", "()V"⟩, ⟨"java/lang/RuntimeException", "<init>", "(Ljava/lang/String;)V"⟩, ⟨"java/lang/Exception", "<init>", "()V"⟩, ⟨"java/lang/Exception", "<init>", "(Ljava/lang/String;)V"⟩, ⟨"java/lang/Throwable", "<init>", "()V"⟩, ⟨"java/lang/Throwable", "<init>", "(Ljava/lang/String;)V"⟩]
def xCast : List (String × String) := [("[I", "java/lang/Cloneable"), ("java/lang/IndexOutOfBoundsException", "java/lang/IndexOutOfBoundsException"), ("java/lang/IllegalArgumentException", "java/lang/IllegalArgumentException"), ("java/lang/IllegalStateException", "java/lang/IllegalStateException")]
def xNest : List (String × Nat × MethodName × String) := [(RX4, 9, yX3_init, RX4), (RX2, 27, yX0_init, RX4), (RX2, 28, yX1_init, RX4)]
def xText : List (Nat × String) := [(181, "number out of its range"), (185, "argument out of its range"), (190, "not possible now"), (171, "no such house"), (179, "no such pipe")]
def xNot : List (String × String) := [("java/lang/IllegalArgumentException", "java/lang/IndexOutOfBoundsException"), ("java/lang/IllegalStateException", "java/lang/IndexOutOfBoundsException"), ("java/lang/IllegalStateException", "java/lang/IllegalArgumentException"), ("java/lang/IndexOutOfBoundsException", "java/lang/IllegalArgumentException")]
def xF (z0 : Nat) (U : State) : Prop :=
  (∀ q ∈ xNest, va_Nw (.methodLinkNest q.1 q.2.1 q.2.2.1 q.2.2.2) U) ∧ (∀ q ∈ xCast, va_Nw (.castable q.1 q.2) U) ∧ (∀ x ∈ xDecl, va_Nw (.declares x) U) ∧
  (va_AO RX0 U ∧ va_AO RX1 U ∧ (Cond.arrayOver (.array .int)).before #[] U = true) ∧
  (∀ q ∈ xText, ∃ a, vk_R RX4 q.1 q.2 a U) ∧
  vx_Zq Bundle.tN "UNASSIGNED_STACK" Bundle.steD (fun q => z0 ≤ q) U U.heap ∧ vx_Zq Bundle.tN "SUPPRESSED_SENTINEL" Bundle.listD (fun q => z0 ≤ q) U U.heap ∧ ∀ q ∈ xNot, va_Nc q.1 q.2 U
theorem xF.next {z0 : Nat} {s U : State} (hW : s.WarmedH U.vm) (hq : ∀ a : Nat, a < s.heap.size → ¬ z0 ≤ a → U.heap[a]? = s.heap[a]?) (h : xF z0 s) : xF z0 U := by
  obtain ⟨h1, h2, h3, ⟨h4, h5, h6⟩, h7, h8, h9, h10⟩ := h
  exact ⟨fun q hm => va_Nw.warmM hW (h1 q hm), fun q hm => va_Nw.warmC hW (h2 q hm), fun x hm => va_Nw.warmD hW (h3 x hm), ⟨va_AO.moved hW.alike h4, va_AO.moved hW.alike h5, over_moved hW.alike h6⟩,
    fun q hm => by obtain ⟨a, ha⟩ := h7 q hm; exact ⟨a, vk_R.warm hW ha⟩, (vx_Zq.moved hW.alike h8).kept hq, (vx_Zq.moved hW.alike h9).kept hq, fun q hm => va_Nc.moved hW.alike (h10 q hm)⟩
theorem xF.calling {z0 : Nat} {U : State} {g : JFrame} {mk : MethodId} {a : Array Value} (h : xF z0 U) : xF z0 (U.calling g mk a) := xF.next (State.WarmedH.refl U) (fun _ _ _ => rfl) h
