/-! a number is equal to itself, where it is one -/
theorem fq_ord {d : Jvm.FP.Core.Datum} (h : d ≠ .nan) : Jvm.FP.Core.order d d = some .eq := by
  cases d with
  | nan => exact absurd rfl h
  | inf s => unfold Jvm.FP.Core.order; exact congrArg some (by simp)
  | fin s c q => unfold Jvm.FP.Core.order; exact congrArg some (by simp)
theorem fq_nn {x : UInt64} (h : vf_n64 x) : Jvm.FP.Core.decode Jvm.FP.Core.b64 x.toNat ≠ .nan := by
  intro hn
  have e1 : Jvm.FP.Core.b64.tails = 4503599627370496 := by decide +kernel
  have e2 : Jvm.FP.Core.b64.exps = 2048 := by decide +kernel
  unfold vf_n64 at h
  rw [UInt64.le_iff_toNat_le, UInt64.toNat_and] at h
  have h2 : x.toNat &&& (2 ^ 63 - 1) ≤ 9218868437227405312 := h
  rw [Nat.and_two_pow_sub_one_eq_mod] at h2
  unfold Jvm.FP.Core.decode at hn
  rw [e2] at hn
  by_cases c1 : Jvm.FP.Core.fieldE Jvm.FP.Core.b64 x.toNat = 2048 - 1
  · rw [if_pos c1] at hn
    by_cases c2 : Jvm.FP.Core.fieldT Jvm.FP.Core.b64 x.toNat = 0
    · rw [if_pos c2] at hn; cases hn
    · unfold Jvm.FP.Core.fieldE at c1
      unfold Jvm.FP.Core.fieldT at c2
      rw [e1] at c1 c2
      rw [e2] at c1
      omega
  · rw [if_neg c1] at hn
    split at hn <;> cases hn
theorem fq_cmp {x : UInt64} {op : CmpOp} (h : vf_n64 x) : Op.cmpValue (FP.dcmp x x) op = 0 := by
  have e : FP.dcmp x x = some .eq := fq_ord (fq_nn h)
  rw [e]
  rfl
