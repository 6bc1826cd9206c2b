/-! needs, dirty, advise -/
theorem IN.i {x a b : Int32} (h : IN x a b) : a.toInt ≤ x.toInt ∧ x.toInt ≤ b.toInt := ⟨Int32.le_iff_toInt_le.mp h.1, Int32.le_iff_toInt_le.mp h.2⟩
theorem clT_ok {S : tS} {h : Nat} (ho : ok S) (hh : h < sN S) : ok (clT h S) := by
  refine ok_h1 ho rfl rfl rfl rfl (upd_n _ _ (by omega)) (fun _ => ?_)
  obtain ⟨a, b, c, d, e, f⟩ := ho.2.2.1 h hh
  unfold rgH
  rw [upd_n _ _ (by omega), upd_n _ _ (by omega), upd_n _ _ (by omega), upd_n _ _ (by omega), upd_n _ _ (by omega), upd_s]
  exact ⟨a, b, c, d, e, by decide⟩
theorem tuT_ok {S : tS} {j : Nat} {b : Int32} (ho : ok S) (hb : isB b) : ok (tuT j b S) := by
  obtain ⟨h1, h2, h3, h4, h5⟩ := ho
  refine ⟨h1, h2, h3, fun p hp => ?_, h5⟩
  show okQ (sN S) (va_up (sQ S) j _ p)
  by_cases e : p = j
  · subst e
    rw [va_up_self]
    obtain ⟨x, y, z1, z2, z3, z4, z5, z6, z7, z8⟩ := h4 p hp
    exact ⟨x, y, z1, z2, z3, by rw [upd_n _ _ (by omega)]; exact z4, by rw [upd_n _ _ (by omega)]; exact z5, by rw [upd_n _ _ (by omega)]; exact z6, by rw [upd_n _ _ (by omega)]; exact z7, by rw [upd_s]; exact hb⟩
  · rw [va_up_ne _ _ e]; exact h4 p hp
def liveA (ra le : Nat → Int32) (k : Nat) (S : tS) : Int32 := sumS 7 (daysS ra le k S) - sumS 7 S
