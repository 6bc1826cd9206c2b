/-! the model's day -/
theorem Ct0.to {l : Launch} {y : MethodName} {bytes : ByteArray} {maxL f lo z0 n : Nat} {ret : Option FieldType} {D : va_G} {cy : Nat → ClassId} {ad : Nat → Nat} {g g' g2 : Nat → va_E} {av : List Value} {r r2 : Option Value} (h : Ct0 l y bytes maxL ret f lo z0 D cy n ad g av r g') (hr : r = r2) (hg : g' = g2) : Ct0 l y bytes maxL ret f lo z0 D cy n ad g av r2 g2 := hr ▸ hg ▸ h
/-! what goes through a pipe, told the other way -/
def goF (q f1 f2 : Nat → Int32) : Int32 := jmin (q 2) (jabs (f1 2 * f2 1 - f2 2 * f1 1) / (f1 1 + f2 1))
theorem goF_ok {q f1 f2 : Nat → Int32} (h1 : rgH f1) (h2 : rgH f2) (hl : 1 ≤ (q 2).toInt ∧ (q 2).toInt ≤ 50) : jabs (flwF q f1 f2) = goF q f1 f2 ∧ (0 < f1 2 * f2 1 - f2 2 * f1 1 → flwF q f1 f2 = goF q f1 f2) ∧ (¬ 0 < f1 2 * f2 1 - f2 2 * f1 1 → flwF q f1 f2 = -goF q f1 f2) ∧ ¬ (f1 1 + f2 1 = 0) := by
  obtain ⟨e1, e2, e3⟩ := flwI h1 h2 hl
  obtain ⟨_, b1, c1, _⟩ := id h1
  obtain ⟨_, b2, c2, _⟩ := id h2
  have m1 := mulLe (a := (f1 2).toInt) (b := (f2 1).toInt) (A := 900) (B := 900) (by omega) (by omega) (by omega) (by omega)
  have m2 := mulLe (a := (f2 2).toInt) (b := (f1 1).toInt) (A := 900) (B := 900) (by omega) (by omega) (by omega) (by omega)
  have z : (0 : Int32).toInt = 0 := Int32.toInt_zero
  have z1 : (-1 : Int32).toInt = -1 := by decide
  generalize hM : f1 2 * f2 1 - f2 2 * f1 1 = M at *
  generalize hK : f1 1 + f2 1 = K at *
  rw [← e1, ← e2] at e3
  have a1 := jabsI (x := M) (by omega)
  have a2 : (jabs M / K).toInt = (jabs M).toInt.tdiv K.toInt := divI (fun h => by rw [h] at e2; omega)
  have a3 : (goF q f1 f2).toInt = min (q 2).toInt ((jabs M).toInt.tdiv K.toInt) := by
    unfold goF
    rw [hM, hK, jminI, a2]
  have a4 := jabsI (x := flwF q f1 f2) (by omega)
  have pos : (0 < M) ↔ 0 < M.toInt := by rw [Int32.lt_iff_toInt_lt, z]
  have g0 : 0 ≤ (jabs M).toInt.tdiv K.toInt := Int.tdiv_nonneg (by rw [a1]; split <;> omega) (by omega)
  have g1 : 0 ≤ (goF q f1 f2).toInt ∧ (goF q f1 f2).toInt ≤ 50 := by omega
  have g2 : (-goF q f1 f2).toInt = -(goF q f1 f2).toInt := negI (by omega)
  have key : (0 < M.toInt → (flwF q f1 f2).toInt = (goF q f1 f2).toInt) ∧ (¬ 0 < M.toInt → (flwF q f1 f2).toInt = -(goF q f1 f2).toInt) := by
    refine ⟨fun h => ?_, fun h => ?_⟩
    · rw [if_pos (by omega)] at a1
      rw [a1] at a3 g0
      rw [e3, a3]
      omega
    · have a1' : (jabs M).toInt = -M.toInt := by rw [a1]; split <;> omega
      rw [a1', Int.neg_tdiv] at a3 g0
      rw [e3, a3]
      omega
  refine ⟨Int32.toInt_inj.mp ?_, fun h => Int32.toInt_inj.mp (key.1 (pos.mp h)), fun h => Int32.toInt_inj.mp ?_, fun h => by rw [h] at e2; omega⟩
  · rw [a4]
    by_cases h : 0 < M.toInt
    · rw [key.1 h]; split <;> omega
    · rw [key.2 h]; split <;> omega
  · rw [g2]; exact key.2 (fun q => h (pos.mpr q))
