/-! the Jvm.FP.Core.quotient of two whole numbers that are not too large is a number -/
theorem fq_mod (x : Nat) (h : x % 9223372036854775808 ≤ 9218868437227405312) : vf_n64 (.ofNat x) := by
  unfold vf_n64
  rw [UInt64.le_iff_toNat_le, UInt64.toNat_and]
  show (UInt64.ofNat x).toNat &&& (2 ^ 63 - 1) ≤ 9218868437227405312
  rw [Nat.and_two_pow_sub_one_eq_mod, UInt64.toNat_ofNat']
  have : x % 2 ^ 64 % 2 ^ 63 = x % 2 ^ 63 := Nat.mod_mod_of_dvd _ (by decide)
  rw [this]
  exact h
def fq_ok (d : Jvm.FP.Core.Datum) : Prop := d = .inf false ∨ d = .inf true ∨ ∃ s c q, d = .fin s c q ∧ c < 9007199254740992 ∧ q ≤ 971
theorem fq_bound (s : Bool) (c : Nat) (q : Int) (h : c < 9007199254740992) : fq_ok (Jvm.FP.Core.bound Jvm.FP.Core.b64 s c q) := by
  unfold Jvm.FP.Core.bound
  have e : Jvm.FP.Core.b64.qmax = 971 := by decide +kernel
  rw [e]
  split
  · exact Or.inr (Or.inr ⟨s, c, q, rfl, h, by assumption⟩)
  · cases s
    · exact Or.inl rfl
    · exact Or.inr (Or.inl rfl)
theorem fq_settle (s : Bool) (c : Nat) (q : Int) : fq_ok (Jvm.FP.Core.settle Jvm.FP.Core.b64 s c q) := by
  unfold Jvm.FP.Core.settle
  split
  · rename_i h
    exact fq_bound s c q h
  · exact fq_bound s _ _ (by decide)
theorem fq_ratio (s : Bool) (a b : Nat) (e : Int) : fq_ok (Jvm.FP.Core.roundRatio Jvm.FP.Core.b64 s a b e) := by
  unfold Jvm.FP.Core.roundRatio
  split
  · exact Or.inr (Or.inr ⟨s, 0, _, rfl, by decide, by decide +kernel⟩)
  · exact fq_settle _ _ _
theorem fq_enc {d : Jvm.FP.Core.Datum} (h : fq_ok d) : Jvm.FP.Core.encode Jvm.FP.Core.b64 d % 9223372036854775808 ≤ 9218868437227405312 := by
  have e1 : Jvm.FP.Core.b64.tails = 4503599627370496 := by decide +kernel
  have e2 : Jvm.FP.Core.b64.exps = 2048 := by decide +kernel
  have e3 : Jvm.FP.Core.b64.qmin = -1074 := by decide +kernel
  have as : ∀ (s : Bool) (E t : Nat), E * 4503599627370496 + t ≤ 9218868437227405312 → Jvm.FP.Core.assemble Jvm.FP.Core.b64 s E t % 9223372036854775808 ≤ 9218868437227405312 := by
    intro s E t hh
    unfold Jvm.FP.Core.assemble
    rw [e1, e2]
    cases s <;> simp only [Bool.toNat_false, Bool.toNat_true] <;> omega
  rcases h with h | h | ⟨s, c, q, h, hc, hq⟩ <;> subst h
  · exact as _ _ _ (by rw [e2]; decide)
  · exact as _ _ _ (by rw [e2]; decide)
  · unfold Jvm.FP.Core.encode
    dsimp only
    rw [e1, e3]
    split
    · exact as _ _ _ (by omega)
    · exact as _ _ _ (by omega)
def fq_t (k : Nat) : Bool := match Jvm.FP.Core.decode Jvm.FP.Core.b64 (FP.i2d (nI k)).toNat with
  | .fin _ d _ => decide (k = 0) || decide (d ≠ 0)
  | _ => false
theorem fq_all : (List.range 9001).all fq_t = true := by decide +kernel
theorem fq_dec {k : Nat} (h : k ≤ 9000) : ∃ s d q, Jvm.FP.Core.decode Jvm.FP.Core.b64 (FP.i2d (nI k)).toNat = .fin s d q ∧ (0 < k → d ≠ 0) := by
  have h1 := List.all_eq_true.mp fq_all k (List.mem_range.mpr (by omega))
  unfold fq_t at h1
  cases hd : Jvm.FP.Core.decode Jvm.FP.Core.b64 (FP.i2d (nI k)).toNat with
  | nan => rw [hd] at h1; cases h1
  | inf s => rw [hd] at h1; cases h1
  | fin s d q =>
    rw [hd] at h1
    refine ⟨s, d, q, rfl, fun h0 => ?_⟩
    simp only [Bool.or_eq_true, decide_eq_true_eq] at h1
    rcases h1 with h1 | h1
    · omega
    · exact h1
theorem fq_div {a b : Nat} (ha : a ≤ 9000) (hb : b ≤ 9000) (h0 : 0 < b) : vf_n64 (FP.ddiv (FP.i2d (nI a)) (FP.i2d (nI b))) := by
  obtain ⟨s1, d1, q1, e1, -⟩ := fq_dec ha
  obtain ⟨s2, d2, q2, e2, z2⟩ := fq_dec hb
  refine fq_mod (Jvm.FP.Core.div Jvm.FP.Core.b64 (FP.i2d (nI a)).toNat (FP.i2d (nI b)).toNat) ?_
  unfold Jvm.FP.Core.div
  rw [e1, e2]
  refine fq_enc ?_
  unfold Jvm.FP.Core.quotient
  dsimp only
  rw [if_neg (z2 h0)]
  exact fq_ratio _ _ _ _
