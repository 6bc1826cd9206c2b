/-! what else a making method, or one that reads the script, rests on: words that are no good words, and the script's own cell; it stays as the tables warm and the heap below z0 stays -/
def xNest : List (String × Nat × MethodName × String) := [(RX4, 9, yX3_init, RX4), (RX2, 27, yX0_init, RX4), (RX2, 28, yX1_init, RX4), (RL, 11, yX6_init, RL), (RX6, 44, yX5_init, RL)]
/-- the script's cell lies below z0; its place is kept as the number cy 9 -/
def xScr (z0 : Nat) (cy : Nat → ClassId) (U : State) : Prop := cy 9 < z0 ∧ ∃ (Ls : Nat) (xs : Nat → Int32), Ls ≤ 260 ∧ va_X (cy 9) Ls xs U U.heap
theorem va_X.lt {b L : Nat} {xs : Nat → Int32} {U : State} {H : Heap} (h : va_X b L xs U H) : b < H.size := by
  obtain ⟨scr, h1, -⟩ := h
  exact (Array.getElem?_eq_some_iff.mp h1).1
def xF (z0 : Nat) (cy : Nat → ClassId) (U : State) : Prop :=
  (∀ q ∈ xNest, va_Nw (.methodLinkNest q.1 q.2.1 q.2.2.1 q.2.2.2) U) ∧ (va_AO RX0 U ∧ va_AO RX1 U ∧ va_AO RX5 U ∧ (Cond.arrayOver (.array .int)).before #[] U = true) ∧ xScr z0 cy U
theorem xF.next {z0 : Nat} {cy : Nat → ClassId} {s U : State} (hW : s.WarmedH U.vm) (hq : ∀ a : Nat, a < s.heap.size → ¬ z0 ≤ a → U.heap[a]? = s.heap[a]?) (h : xF z0 cy s) : xF z0 cy U := by
  obtain ⟨h1, ⟨h2, h3, h4, h5⟩, h6, Ls, xs, h7, h8⟩ := h
  exact ⟨fun q hm => va_Nw.warmM hW (h1 q hm), ⟨va_AO.moved hW.alike h2, va_AO.moved hW.alike h3, va_AO.moved hW.alike h4, over_moved hW.alike h5⟩, h6, Ls, xs, h7, (va_X.moved hW.alike h8).kept (hq _ h8.lt (Nat.not_le.mpr h6))⟩
theorem xF.calling {z0 : Nat} {cy : Nat → ClassId} {U : State} {g : JFrame} {mk : MethodId} {a : Array Value} (h : xF z0 cy U) : xF z0 cy (U.calling g mk a) := xF.next (State.WarmedH.refl U) (fun _ _ _ => rfl) h
