/-! in the end all is as by hand -/
def PI : CtP := fun r _ _ _ => r = some (.int 1)
def sm (w : Nat) (S : tS) (k : Nat) : Int32 := itr (fun i a => a + sH S i w) 0 k 0
theorem sm_s (w : Nat) (S : tS) (k : Nat) : sm w S (k + 1) = sm w S k + sH S k w := by
  unfold sm
  rw [itr_last, Nat.zero_add]
def opP (S : tS) (k : Nat) : Int32 := itr (fun p a => a + sQ S p 3) 0 k 0
theorem opP_s (S : tS) (k : Nat) : opP S (k + 1) = opP S k + sQ S k 3 := by
  unfold opP
  rw [itr_last, Nat.zero_add]
def tl (f : Nat → Int32) : Nat → Int32 := upd (upd (upd (upd (upd (upd (upd (upd (upd (upd (fun _ => 0) 0 (f 0)) 1 (f 1)) 2 (f 2)) 3 (f 3)) 4 (f 4)) 5 (f 5)) 6 (f 6)) 7 (f 7)) 8 (f 8)) 9 (f 9)
theorem tl_at (f : Nat → Int32) : ∀ {j : Nat}, j < 10 → tl f j = f j
  | 0, _ => rfl
  | 1, _ => rfl
  | 2, _ => rfl
  | 3, _ => rfl
  | 4, _ => rfl
  | 5, _ => rfl
  | 6, _ => rfl
  | 7, _ => rfl
  | 8, _ => rfl
  | 9, _ => rfl
  | j + 10, h => absurd h (by omega)
def cn (S : tS) : Nat → Int32 := upd (upd (upd (upd (upd (upd (upd (upd (upd (upd (upd (fun _ => 0) 0 (sM S 0)) 1 (nI (sN S))) 2 (nI (sP S))) 3 (sumS 2 S)) 4 (sm 7 S (sN S))) 5 (sM S 1)) 6 (sM S 2)) 7 (sM S 3)) 8 (sm 8 S (sN S))) 9 (sM S 4)) 10 (opP S (sP S))
theorem cn_at (S : tS) : ∀ {j : Nat}, j < 11 → cn S j = totalS S j
  | 0, _ => rfl
  | 1, _ => rfl
  | 2, _ => rfl
  | 3, _ => rfl
  | 4, _ => rfl
  | 5, _ => rfl
  | 6, _ => rfl
  | 7, _ => rfl
  | 8, _ => rfl
  | 9, _ => rfl
  | 10, _ => rfl
  | j + 11, h => absurd h (by omega)
theorem j_all (l : Launch) {z0 n : Nat} {D : va_G} {cy : Nat → ClassId} {ad : Nat → Nat} {S T : tS} {ra le : Nat → Int32} {g0 : Nat → va_E} (ho : ok S) (hn : 97 + sN T + sP T ≤ n) (hN : sN T ≤ 10) : Ct0 l yX6_all cX6_all 6 (some FieldType.int) 0 0 z0 D cy n ad (jW cy ad S T ra le g0) [.ref (ad 54)] (some (.int (sumS 2 T))) (jW cy ad S T ra le g0) := by
  rw [jW_c ho.1 ho.2.1]
  exact c_X6_all l hn hN
section SAM
variable {l : Launch} {p : Program} {e : Env} {s : State} {m : MethodId} {A : Array Value} {below : List Frame} {meth : Method} {c : Code} {Q : State → Prop} {z0 n : Nat} {D : va_G} {cy : Nat → ClassId} {ad : Nat → Nat} {S : tS} {ra le : Nat → Int32} {g0 : Nat → va_E} {d : Nat}
set_option maxRecDepth 100000 in
set_option maxHeartbeats 4000000 in
/-- the houses -/
theorem v_sH (X : vCx p s m A c cX6_isSame RX6 10 z0 D cy) (ho : ok S) (hdb : dbJ S) (hN8 : sN S ≤ 8) (hn : 97 + sN S + sP S ≤ n)
    (hend : ∀ ad : Nat → Nat, BJ cy ad S ra le g0 → vV p l e { frames := 9, cells := 9, slots := 91, locals := 200 } s m A below meth c 10 z0 D 8 80 Q n ad (jW cy ad S S ra le g0) 241 [some (.ref (ad 54)), some (.ref (ad 0)), some (.int (sm 7 S (sN S))), some (.int (sm 8 S (sN S))), some (.int (sm 1 S (sN S))), some (.int 0), none, none, none, none] []) :
    ∀ (q i : Nat), q + i = sN S → ∀ ad : Nat → Nat, BJ cy ad S ra le g0 → vV p l e { frames := 9, cells := 9, slots := 91, locals := 200 } s m A below meth c 10 z0 D i (10 * i) Q n ad (jW cy ad S S ra le g0) 13 [some (.ref (ad 54)), some (.ref (ad 0)), some (.int (sm 7 S i)), some (.int (sm 8 S i)), some (.int (sm 1 S i)), some (.int 0), some (.int (nI i)), none, none, none] [] := by
  have hn1 : 97 + sN S + sP S ≤ n + 1 := by omega
  intro q
  induction q with
  | zero =>
    intro i hi ad hB
    have : i = sN S := by omega
    subst this
    refine v_iload X dX6_isSame_13 rfl ?_
    refine v_aload0 X dX6_isSame_15 rfl ?_
    refine gf_X6_16 X dX6_isSame_16 (jS_s ho hn) ?_
    refine v_alenL X dX6_isSame_19 (jS_h ho hn) ?_
    refine v_icmp_ge (tgt := 241) X dX6_isSame_20 (by decide) (fun hc => ?_) (fun hc => ?_)
    · exact (vV.le (by exact ⟨rfl, rfl, rfl, rfl, rfl, rfl, trivial⟩) (hend ad hB)).wd (by omega) (by omega)
    · exact absurd (Int32.le_refl _) hc
  | succ q ih =>
    intro i hqi ad0 hB
    have hi : i < sN S := by omega
    refine v_iload X dX6_isSame_13 rfl ?_
    refine v_aload0 X dX6_isSame_15 rfl ?_
    refine gf_X6_16 X dX6_isSame_16 (jS_s ho hn) ?_
    refine v_alenL X dX6_isSame_19 (jS_h ho hn) ?_
    refine v_icmp_ge (tgt := 241) X dX6_isSame_20 (by decide) (fun hc => ?_) (fun hc => ?_)
    · exact absurd hc (nIge hi (by omega))
    refine v_aload0 X dX6_isSame_23 rfl ?_
    refine gf_X6_16 X dX6_isSame_24 (jS_s ho hn) ?_
    refine v_iload X dX6_isSame_27 rfl ?_
    refine v_aaldL X dX6_isSame_29 (jS_h ho hn) rfl hi (by omega) ?_
    refine v_astore7 X rfl (Nat.le_of_ble_eq_true rfl) dX6_isSame_30 ?_
    refine v_bip (v := 10) X dX6_isSame_32 (by decide) ?_
    refine v_newi (N := 10) X rfl (by omega) ⟨by show _ ≤ 9; omega, by show _ ≤ 91; omega⟩ dX6_isSame_34 ?_
    intro ad a3
    rw [← a3 0 (by omega), ← a3 54 (by omega), ← a3 (97 + i) (by omega), ← jW_ad (ad' := ad) (S := S) (T := S) (fun k hk => a3 k (by omega))]
    refine v_dup X dX6_isSame_36 rfl ?_
    refine v_ico (v := 0) X dX6_isSame_37 (by decide) ?_
    refine v_aload X dX6_isSame_38 rfl ?_
    refine gf_X6_45 X dX6_isSame_40 ((jS_hh ho hn1 hi).ne (by omega)) ?_
    refine v_iast X dX6_isSame_43 ⟨by omega, va_up_self _ _ _⟩ rfl (by decide) (by decide) ?_
    refine vV.gg (va_up_up _ _ _ _) ?_
    refine v_dup X dX6_isSame_44 rfl ?_
    refine v_ico (v := 1) X dX6_isSame_45 (by decide) ?_
    refine v_aload X dX6_isSame_46 rfl ?_
    refine gf_X6_48 X dX6_isSame_48 ((jS_hh ho hn1 hi).ne (by omega)) ?_
    refine v_iast X dX6_isSame_51 ⟨by omega, va_up_self _ _ _⟩ rfl (by decide) (by decide) ?_
    refine vV.gg (va_up_up _ _ _ _) ?_
    refine v_dup X dX6_isSame_52 rfl ?_
    refine v_ico (v := 2) X dX6_isSame_53 (by decide) ?_
    refine v_aload X dX6_isSame_54 rfl ?_
    refine gf_X6_68 X dX6_isSame_56 ((jS_hh ho hn1 hi).ne (by omega)) ?_
    refine v_iast X dX6_isSame_59 ⟨by omega, va_up_self _ _ _⟩ rfl (by decide) (by decide) ?_
    refine vV.gg (va_up_up _ _ _ _) ?_
    refine v_dup X dX6_isSame_60 rfl ?_
    refine v_ico (v := 3) X dX6_isSame_61 (by decide) ?_
    refine v_aload X dX6_isSame_62 rfl ?_
    refine gf_X6_51 X dX6_isSame_64 ((jS_hh ho hn1 hi).ne (by omega)) ?_
    refine v_iast X dX6_isSame_67 ⟨by omega, va_up_self _ _ _⟩ rfl (by decide) (by decide) ?_
    refine vV.gg (va_up_up _ _ _ _) ?_
    refine v_dup X dX6_isSame_68 rfl ?_
    refine v_ico (v := 4) X dX6_isSame_69 (by decide) ?_
    refine v_aload X dX6_isSame_70 rfl ?_
    refine gf_X6_54 X dX6_isSame_72 ((jS_hh ho hn1 hi).ne (by omega)) ?_
    refine v_iast X dX6_isSame_75 ⟨by omega, va_up_self _ _ _⟩ rfl (by decide) (by decide) ?_
    refine vV.gg (va_up_up _ _ _ _) ?_
    refine v_dup X dX6_isSame_76 rfl ?_
    refine v_ico (v := 5) X dX6_isSame_77 (by decide) ?_
    refine v_aload X dX6_isSame_78 rfl ?_
    refine gf_X6_80 X dX6_isSame_80 ((jS_hh ho hn1 hi).ne (by omega)) ?_
    refine v_iast X dX6_isSame_83 ⟨by omega, va_up_self _ _ _⟩ rfl (by decide) (by decide) ?_
    refine vV.gg (va_up_up _ _ _ _) ?_
    refine v_dup X dX6_isSame_84 rfl ?_
    refine v_bip (v := 6) X dX6_isSame_85 (by decide) ?_
    refine v_aload X dX6_isSame_87 rfl ?_
    refine gf_X6_57 X dX6_isSame_89 ((jS_hh ho hn1 hi).ne (by omega)) ?_
    refine v_iast X dX6_isSame_92 ⟨by omega, va_up_self _ _ _⟩ rfl (by decide) (by decide) ?_
    refine vV.gg (va_up_up _ _ _ _) ?_
    refine v_dup X dX6_isSame_93 rfl ?_
    refine v_bip (v := 7) X dX6_isSame_94 (by decide) ?_
    refine v_aload X dX6_isSame_96 rfl ?_
    refine gf_X6_86 X dX6_isSame_98 ((jS_hh ho hn1 hi).ne (by omega)) ?_
    refine v_iast X dX6_isSame_101 ⟨by omega, va_up_self _ _ _⟩ rfl (by decide) (by decide) ?_
    refine vV.gg (va_up_up _ _ _ _) ?_
    refine v_dup X dX6_isSame_102 rfl ?_
    refine v_bip (v := 8) X dX6_isSame_103 (by decide) ?_
    refine v_aload X dX6_isSame_105 rfl ?_
    refine gf_X6_95 X dX6_isSame_107 ((jS_hh ho hn1 hi).ne (by omega)) ?_
    refine v_iast X dX6_isSame_110 ⟨by omega, va_up_self _ _ _⟩ rfl (by decide) (by decide) ?_
    refine vV.gg (va_up_up _ _ _ _) ?_
    refine v_dup X dX6_isSame_111 rfl ?_
    refine v_bip (v := 9) X dX6_isSame_112 (by decide) ?_
    refine v_aload X dX6_isSame_114 rfl ?_
    refine gf_X6_89 X dX6_isSame_116 ((jS_hh ho hn1 hi).ne (by omega)) ?_
    refine v_iast X dX6_isSame_119 ⟨by omega, va_up_self _ _ _⟩ rfl (by decide) (by decide) ?_
    refine vV.gg (va_up_up _ _ _ _) ?_
    refine vV.gg (g' := va_up (jW cy ad S S ra le g0) n (iA cy 10 (tl (sH S i)))) rfl ?_
    refine vV.gg (jW_up ho hn) ?_
    have hB2 : BJ cy ad S ra le (va_up g0 n (iA cy 10 (tl (sH S i)))) := (hB.adr (fun j hj => a3 j (by omega))).up (by omega)
    have htl : vAt (n + 1) (jW cy ad S S ra le (va_up g0 n (iA cy 10 (tl (sH S i))))) n (iA cy 10 (tl (sH S i))) := ⟨by omega, (jW_n ho hn).trans (va_up_self _ _ _)⟩
    -- behind what is owed
    have h209 : vV p l e { frames := 9, cells := 9, slots := 91, locals := 200 } s m A below meth c 10 z0 D (i + 1) (10 * i + 10) Q (n + 1) ad (jW cy ad S S ra le (va_up g0 n (iA cy 10 (tl (sH S i))))) 209 [some (.ref (ad 54)), some (.ref (ad 0)), some (.int (sm 7 S i)), some (.int (sm 8 S i)), some (.int (sm 1 S i)), some (.int 0), some (.int (nI i)), some (.ref (ad (97 + i))), none, none] [] := by
      refine v_iload2 X dX6_isSame_209 rfl ?_
      refine v_aload X dX6_isSame_210 rfl ?_
      refine gf_X6_86 X dX6_isSame_212 (jS_hh ho hn1 hi) ?_
      refine v_iadd X dX6_isSame_215 ?_
      refine v_istore2 X rfl (Nat.le_of_ble_eq_true rfl) dX6_isSame_216 ?_
      refine v_iload3 X dX6_isSame_217 rfl ?_
      refine v_aload X dX6_isSame_218 rfl ?_
      refine gf_X6_95 X dX6_isSame_220 (jS_hh ho hn1 hi) ?_
      refine v_iadd X dX6_isSame_223 ?_
      refine v_istore3 X rfl (Nat.le_of_ble_eq_true rfl) dX6_isSame_224 ?_
      refine v_iload X dX6_isSame_225 rfl ?_
      refine v_aload X dX6_isSame_227 rfl ?_
      refine gf_X6_48 X dX6_isSame_229 (jS_hh ho hn1 hi) ?_
      refine v_iadd X dX6_isSame_232 ?_
      refine v_istore4 X rfl (Nat.le_of_ble_eq_true rfl) dX6_isSame_233 ?_
      refine v_iinc6 (v := nI (i + 1)) X rfl (Nat.le_of_ble_eq_true rfl) dX6_isSame_235 (nI_inc i) ?_
      refine v_goto (tgt := 13) X dX6_isSame_238 (by decide) ?_
      rw [← sm_s, ← sm_s, ← sm_s]
      refine vV.cut (n' := n) (ad' := ad) (g' := jW cy ad S S ra le g0) (by omega) (fun _ _ => rfl) (fun k hk => by rw [← jW_up ho hn, va_up_ne _ _ (by omega)]) ?_
      exact (vV.le (by exact ⟨rfl, rfl, rfl, rfl, rfl, rfl, rfl, trivial⟩) (ih (i + 1) (by omega) ad (hB.adr (fun j hj => a3 j (by omega))))).wd (by omega) (by omega)
    have hO : ∀ (q j : Nat), q + j = sN S → vV p l e { frames := 9, cells := 9, slots := 91, locals := 200 } s m A below meth c 10 z0 D (i + 1) (10 * i + 10) Q (n + 1) ad (jW cy ad S S ra le (va_up g0 n (iA cy 10 (tl (sH S i))))) 159 [some (.ref (ad 54)), some (.ref (ad 0)), some (.int (sm 7 S i)), some (.int (sm 8 S i)), some (.int (sm 1 S i)), some (.int 0), some (.int (nI i)), some (.ref (ad (97 + i))), none, some (.int (nI j))] [] := by
      intro q
      induction q with
      | zero =>
        intro j hj
        have : j = sN S := by omega
        subst this
        refine v_iload X dX6_isSame_159 rfl ?_
        refine v_aload0 X dX6_isSame_161 rfl ?_
        refine gf_X6_16 X dX6_isSame_162 (jS_s ho hn1) ?_
        refine v_alenL X dX6_isSame_165 (jS_h ho hn1) ?_
        refine v_icmp_ge (tgt := 209) X dX6_isSame_166 (by decide) (fun hc => ?_) (fun hc => ?_)
        · exact vV.le (by exact ⟨rfl, rfl, rfl, rfl, rfl, rfl, rfl, rfl, trivial⟩) h209
        · exact absurd (Int32.le_refl _) hc
      | succ q ih2 =>
        intro j hqj
        have hj : j < sN S := by omega
        refine v_iload X dX6_isSame_159 rfl ?_
        refine v_aload0 X dX6_isSame_161 rfl ?_
        refine gf_X6_16 X dX6_isSame_162 (jS_s ho hn1) ?_
        refine v_alenL X dX6_isSame_165 (jS_h ho hn1) ?_
        refine v_icmp_ge (tgt := 209) X dX6_isSame_166 (by decide) (fun hc => ?_) (fun hc => ?_)
        · exact absurd hc (nIge hj (by omega))
        refine v_aload1 X dX6_isSame_169 rfl ?_
        refine v_iload X dX6_isSame_170 rfl ?_
        refine v_iload X dX6_isSame_172 rfl ?_
        refine cd_X6_110 X dX6_isSame_174 (c_owes l (hB2.R (by omega)) ho (hasB_1 hi (by omega)) (hasB_1 hj (by omega))) (jS_r hB2 (by omega)) rfl (Nat.le_of_ble_eq_true rfl) ⟨(Nat.le_of_ble_eq_true rfl), (Nat.le_of_ble_eq_true rfl), (by first | (show _ ≤ 9; omega) | (show _ ≤ 91; omega)), (by first | (show _ ≤ 9; omega) | (show _ ≤ 91; omega))⟩ ?_
        refine v_aload0 X dX6_isSame_177 rfl ?_
        refine gf_X6_25 X dX6_isSame_178 (jS_s ho hn1) ?_
        refine v_iload X dX6_isSame_181 rfl ?_
        refine v_aaldR X dX6_isSame_183 (jS_f ho hn1) rfl (Nat.lt_of_lt_of_le hi ho.1) (by decide) ?_
        refine v_iload X dX6_isSame_184 rfl ?_
        refine v_iald X dX6_isSame_186 (jS_fr ho hn1 (Nat.lt_of_lt_of_le hi ho.1)) rfl (Nat.lt_of_lt_of_le hj ho.1) (by decide) ?_
        refine v_aload0 X dX6_isSame_187 rfl ?_
        refine gf_X6_25 X dX6_isSame_188 (jS_s ho hn1) ?_
        refine v_iload X dX6_isSame_191 rfl ?_
        refine v_aaldR X dX6_isSame_193 (jS_f ho hn1) rfl (Nat.lt_of_lt_of_le hj ho.1) (by decide) ?_
        refine v_iload X dX6_isSame_194 rfl ?_
        refine v_iald X dX6_isSame_196 (jS_fr ho hn1 (Nat.lt_of_lt_of_le hj ho.1)) rfl (Nat.lt_of_lt_of_le hi ho.1) (by decide) ?_
        refine v_isub X dX6_isSame_197 ?_
        have e0 : debtS (nI i) (nI j) S = fr (sF S) i j - fr (sF S) j i := by
          rw [fr_at (by omega), fr_at (by omega)]
          exact hdb i j (by omega) (by omega)
        refine v_icmp_eq (tgt := 203) X dX6_isSame_198 (by decide) (fun _ => ?_) (fun hc => absurd e0 hc)
        refine v_iinc9 (v := nI (j + 1)) X rfl (Nat.le_of_ble_eq_true rfl) dX6_isSame_203 (nI_inc j) ?_
        refine v_goto (tgt := 159) X dX6_isSame_206 (by decide) ?_
        exact ih2 (j + 1) (by omega)
    have hW : ∀ (q j : Nat), q + j = 10 → vV p l e { frames := 9, cells := 9, slots := 91, locals := 200 } s m A below meth c 10 z0 D (i + 1) (10 * i + 10) Q (n + 1) ad (jW cy ad S S ra le (va_up g0 n (iA cy 10 (tl (sH S i))))) 125 [some (.ref (ad 54)), some (.ref (ad 0)), some (.int (sm 7 S i)), some (.int (sm 8 S i)), some (.int (sm 1 S i)), some (.int 0), some (.int (nI i)), some (.ref (ad (97 + i))), some (.ref (ad n)), some (.int (nI j))] [] := by
      intro q
      induction q with
      | zero =>
        intro j hj
        have : j = 10 := by omega
        subst this
        refine v_iload X dX6_isSame_125 rfl ?_
        refine v_bip (v := 10) X dX6_isSame_127 (by decide) ?_
        refine v_icmp_ge (tgt := 156) X dX6_isSame_129 (by decide) (fun _ => ?_) (fun hc => absurd (Int32.le_refl _) hc)
        refine v_ico (v := 0) X dX6_isSame_156 (by decide) ?_
        refine v_istore9 X rfl (Nat.le_of_ble_eq_true rfl) dX6_isSame_157 ?_
        exact vV.le (by exact ⟨rfl, rfl, rfl, rfl, rfl, rfl, rfl, rfl, rfl, trivial⟩) (hO (sN S) 0 (by omega))
      | succ q ih2 =>
        intro j hqj
        have hj : j < 10 := by omega
        refine v_iload X dX6_isSame_125 rfl ?_
        refine v_bip (v := 10) X dX6_isSame_127 (by decide) ?_
        refine v_icmp_ge (tgt := 156) X dX6_isSame_129 (by decide) (fun hc => ?_) (fun hc => ?_)
        · exact absurd hc (nIge (N := 10) hj (by omega))
        refine v_aload1 X dX6_isSame_132 rfl ?_
        refine v_iload X dX6_isSame_133 rfl ?_
        refine v_iload X dX6_isSame_135 rfl ?_
        refine cd_X6_105 X dX6_isSame_137 (c_house l (hB2.R (by omega)) ho hi hj (IN_0 (b := 9) (by omega) (by omega))) (jS_r hB2 (by omega)) rfl (Nat.le_of_ble_eq_true rfl) ⟨(Nat.le_of_ble_eq_true rfl), (Nat.le_of_ble_eq_true rfl), (by first | (show _ ≤ 9; omega) | (show _ ≤ 91; omega)), (by first | (show _ ≤ 9; omega) | (show _ ≤ 91; omega))⟩ ?_
        refine v_aload X dX6_isSame_140 rfl ?_
        refine v_iload X dX6_isSame_142 rfl ?_
        refine v_iald X dX6_isSame_144 htl rfl hj (by omega) ?_
        refine v_icmp_eq (tgt := 150) X dX6_isSame_145 (by decide) (fun _ => ?_) (fun hc => absurd (tl_at (sH S i) hj).symm hc)
        refine v_iinc9 (v := nI (j + 1)) X rfl (Nat.le_of_ble_eq_true rfl) dX6_isSame_150 (nI_inc j) ?_
        refine v_goto (tgt := 125) X dX6_isSame_153 (by decide) ?_
        exact ih2 (j + 1) (by omega)
    refine v_astore8 X rfl (Nat.le_of_ble_eq_true rfl) dX6_isSame_120 ?_
    refine v_ico (v := 0) X dX6_isSame_122 (by decide) ?_
    refine v_istore9 X rfl (Nat.le_of_ble_eq_true rfl) dX6_isSame_123 ?_
    exact hW 10 0 rfl
set_option maxRecDepth 100000 in
set_option maxHeartbeats 4000000 in
/-- the pipes -/
theorem v_sP (X : vCx p s m A c cX6_isSame RX6 10 z0 D cy) (ho : ok S) (hn : 97 + sN S + sP S ≤ n) {t7 t8 t1 : Int32} (hB : BJ cy ad S ra le g0)
    (hend : vV p l e { frames := 9, cells := 9, slots := 91, locals := 200 } s m A below meth c 10 z0 D 8 80 Q n ad (jW cy ad S S ra le g0) 312 [some (.ref (ad 54)), some (.ref (ad 0)), some (.int t7), some (.int t8), some (.int t1), some (.int (opP S (sP S))), none, none, none, none] []) :
    ∀ (q i : Nat), q + i = sP S → vV p l e { frames := 9, cells := 9, slots := 91, locals := 200 } s m A below meth c 10 z0 D 8 80 Q n ad (jW cy ad S S ra le g0) 244 [some (.ref (ad 54)), some (.ref (ad 0)), some (.int t7), some (.int t8), some (.int t1), some (.int (opP S i)), some (.int (nI i)), none, none, none] [] := by
  have hP12 := ho.2.1
  intro q
  induction q with
  | zero =>
    intro i hi
    have : i = sP S := by omega
    subst this
    refine v_iload X dX6_isSame_244 rfl ?_
    refine v_aload0 X dX6_isSame_246 rfl ?_
    refine gf_X6_22 X dX6_isSame_247 (jS_s ho hn) ?_
    refine v_alenA X dX6_isSame_250 (jS_p ho hn) ?_
    refine v_icmp_ge (tgt := 312) X dX6_isSame_251 (by decide) (fun hc => ?_) (fun hc => ?_)
    · exact vV.le (by exact ⟨rfl, rfl, rfl, rfl, rfl, rfl, trivial⟩) hend
    · exact absurd (Int32.le_refl _) hc
  | succ q ih =>
    intro i hqi
    have hi : i < sP S := by omega
    obtain ⟨-, -, -, -, -, -, -, hb3⟩ := okQ_ends ho hi
    have h292 : vV p l e { frames := 9, cells := 9, slots := 91, locals := 200 } s m A below meth c 10 z0 D 8 80 Q n ad (jW cy ad S S ra le g0) 292 [some (.ref (ad 54)), some (.ref (ad 0)), some (.int t7), some (.int t8), some (.int t1), some (.int (opP S i)), some (.int (nI i)), none, none, none] [] := by
      refine v_iload X dX6_isSame_292 rfl ?_
      refine v_aload0 X dX6_isSame_294 rfl ?_
      refine gf_X6_22 X dX6_isSame_295 (jS_s ho hn) ?_
      refine v_iload X dX6_isSame_298 rfl ?_
      refine v_aaldR X dX6_isSame_300 (jS_p ho hn) rfl hi (by omega) ?_
      refine v_ico (v := 3) X dX6_isSame_301 (by decide) ?_
      refine v_iald X dX6_isSame_302 (jS_pp ho hn hi) rfl (by decide) (by decide) ?_
      refine v_iadd X dX6_isSame_303 ?_
      refine vV.top (w := .int (opP S (i + 1))) (congrArg Value.int (opP_s S i).symm) ?_
      refine v_istore5 X rfl (Nat.le_of_ble_eq_true rfl) dX6_isSame_304 ?_
      refine v_iinc6 (v := nI (i + 1)) X rfl (Nat.le_of_ble_eq_true rfl) dX6_isSame_306 (nI_inc i) ?_
      refine v_goto (tgt := 244) X dX6_isSame_309 (by decide) ?_
      exact ih (i + 1) (by omega)
    have hW : ∀ (q j : Nat), q + j = 5 → vV p l e { frames := 9, cells := 9, slots := 91, locals := 200 } s m A below meth c 10 z0 D 8 80 Q n ad (jW cy ad S S ra le g0) 257 [some (.ref (ad 54)), some (.ref (ad 0)), some (.int t7), some (.int t8), some (.int t1), some (.int (opP S i)), some (.int (nI i)), some (.int (nI j)), none, none] [] := by
      intro q
      induction q with
      | zero =>
        intro j hj
        have : j = 5 := by omega
        subst this
        refine v_iload X dX6_isSame_257 rfl ?_
        refine v_ico (v := 5) X dX6_isSame_259 (by decide) ?_
        refine v_icmp_ge (tgt := 292) X dX6_isSame_260 (by decide) (fun _ => ?_) (fun hc => absurd (Int32.le_refl _) hc)
        exact vV.le (by exact ⟨rfl, rfl, rfl, rfl, rfl, rfl, rfl, trivial⟩) h292
      | succ q ih2 =>
        intro j hqj
        have hj : j < 5 := by omega
        refine v_iload X dX6_isSame_257 rfl ?_
        refine v_ico (v := 5) X dX6_isSame_259 (by decide) ?_
        refine v_icmp_ge (tgt := 292) X dX6_isSame_260 (by decide) (fun hc => ?_) (fun hc => ?_)
        · exact absurd hc (nIge (N := 5) hj (by omega))
        refine v_aload1 X dX6_isSame_263 rfl ?_
        refine v_iload X dX6_isSame_264 rfl ?_
        refine v_iload X dX6_isSame_266 rfl ?_
        refine cd_X6_113 X dX6_isSame_268 (c_pipe l (hB.R (by omega)) ho hi hj (IN_0 (b := 4) (by omega) (by omega))) (jS_r hB (by omega)) rfl (Nat.le_of_ble_eq_true rfl) ⟨(Nat.le_of_ble_eq_true rfl), (Nat.le_of_ble_eq_true rfl), (by first | (show _ ≤ 9; omega) | (show _ ≤ 91; omega)), (by first | (show _ ≤ 9; omega) | (show _ ≤ 91; omega))⟩ ?_
        refine v_aload0 X dX6_isSame_271 rfl ?_
        refine gf_X6_22 X dX6_isSame_272 (jS_s ho hn) ?_
        refine v_iload X dX6_isSame_275 rfl ?_
        refine v_aaldR X dX6_isSame_277 (jS_p ho hn) rfl hi (by omega) ?_
        refine v_iload X dX6_isSame_278 rfl ?_
        refine v_iald X dX6_isSame_280 (jS_pp ho hn hi) rfl hj (by omega) ?_
        refine v_icmp_eq (tgt := 286) X dX6_isSame_281 (by decide) (fun _ => ?_) (fun hc => absurd (c5_at hj).symm hc)
        refine v_iinc7 (v := nI (j + 1)) X rfl (Nat.le_of_ble_eq_true rfl) dX6_isSame_286 (nI_inc j) ?_
        refine v_goto (tgt := 257) X dX6_isSame_289 (by decide) ?_
        exact ih2 (j + 1) (by omega)
    refine v_iload X dX6_isSame_244 rfl ?_
    refine v_aload0 X dX6_isSame_246 rfl ?_
    refine gf_X6_22 X dX6_isSame_247 (jS_s ho hn) ?_
    refine v_alenA X dX6_isSame_250 (jS_p ho hn) ?_
    refine v_icmp_ge (tgt := 312) X dX6_isSame_251 (by decide) (fun hc => ?_) (fun hc => ?_)
    · exact absurd hc (nIge hi (by omega))
    refine v_ico (v := 0) X dX6_isSame_254 (by decide) ?_
    refine v_istore7 X rfl (Nat.le_of_ble_eq_true rfl) dX6_isSame_255 ?_
    exact hW 5 0 rfl
set_option maxRecDepth 100000 in
set_option maxHeartbeats 4000000 in
/-- the numbers of the whole village -/
theorem v_sC (X : vCx p s m A c cX6_isSame RX6 10 z0 D cy) (hr : meth.sig.returnType = some .boolean) (hlk : meth.locks = false) (hQ : MQ below (QcR z0 D PI) A s 9 91 (fun q => z0 ≤ q) = Q) (ho : ok S) (hn : 97 + sN S + sP S ≤ n) (hN : 1 ≤ sN S) (hB : BJ cy ad S ra le g0) : vV p l e { frames := 9, cells := 9, slots := 91, locals := 200 } s m A below meth c 10 z0 D 8 80 Q n ad (jW cy ad S S ra le g0) 312 [some (.ref (ad 54)), some (.ref (ad 0)), some (.int (sm 7 S (sN S))), some (.int (sm 8 S (sN S))), some (.int (sm 1 S (sN S))), some (.int (opP S (sP S))), none, none, none, none] [] := by
  have hn1 : 97 + sN S + sP S ≤ n + 1 := by omega
  refine v_bip (v := 11) X dX6_isSame_312 (by decide) ?_
  refine v_newi (N := 11) X rfl (by omega) ⟨by show _ ≤ 9; omega, by show _ ≤ 91; omega⟩ dX6_isSame_314 ?_
  intro ad2 a3
  rw [← a3 0 (by omega), ← a3 54 (by omega), ← jW_ad (ad' := ad2) (S := S) (T := S) (fun k hk => a3 k (by omega))]
  refine v_dup X dX6_isSame_316 rfl ?_
  refine v_ico (v := 0) X dX6_isSame_317 (by decide) ?_
  refine v_aload0 X dX6_isSame_318 rfl ?_
  refine gf_X6_37 X dX6_isSame_319 ((jS_s ho hn1).ne (by omega)) ?_
  refine v_iast X dX6_isSame_322 ⟨by omega, va_up_self _ _ _⟩ rfl (by decide) (by decide) ?_
  refine vV.gg (va_up_up _ _ _ _) ?_
  refine v_dup X dX6_isSame_323 rfl ?_
  refine v_ico (v := 1) X dX6_isSame_324 (by decide) ?_
  refine v_aload0 X dX6_isSame_325 rfl ?_
  refine gf_X6_16 X dX6_isSame_326 ((jS_s ho hn1).ne (by omega)) ?_
  refine v_alenL X dX6_isSame_329 ((jS_h ho hn1).ne (by omega)) ?_
  refine v_iast X dX6_isSame_330 ⟨by omega, va_up_self _ _ _⟩ rfl (by decide) (by decide) ?_
  refine vV.gg (va_up_up _ _ _ _) ?_
  refine v_dup X dX6_isSame_331 rfl ?_
  refine v_ico (v := 2) X dX6_isSame_332 (by decide) ?_
  refine v_aload0 X dX6_isSame_333 rfl ?_
  refine gf_X6_22 X dX6_isSame_334 ((jS_s ho hn1).ne (by omega)) ?_
  refine v_alenA X dX6_isSame_337 ((jS_p ho hn1).ne (by omega)) ?_
  refine v_iast X dX6_isSame_338 ⟨by omega, va_up_self _ _ _⟩ rfl (by decide) (by decide) ?_
  refine vV.gg (va_up_up _ _ _ _) ?_
  refine v_dup X dX6_isSame_339 rfl ?_
  refine v_ico (v := 3) X dX6_isSame_340 (by decide) ?_
  refine v_aload0 X dX6_isSame_341 rfl ?_
  refine vV.gg (jW_up ho hn) ?_
  refine cd_X6_116 X dX6_isSame_342 (j_all l ho hn1 ho.1) (jS_s ho hn1) rfl (Nat.le_of_ble_eq_true rfl) ⟨(Nat.le_of_ble_eq_true rfl), (Nat.le_of_ble_eq_true rfl), (by first | (show _ ≤ 9; omega) | (show _ ≤ 91; omega)), (by first | (show _ ≤ 9; omega) | (show _ ≤ 91; omega))⟩ ?_
  refine vV.gg (jW_up ho hn).symm ?_
  refine v_iast X dX6_isSame_345 ⟨by omega, va_up_self _ _ _⟩ rfl (by decide) (by decide) ?_
  refine vV.gg (va_up_up _ _ _ _) ?_
  refine v_dup X dX6_isSame_346 rfl ?_
  refine v_ico (v := 4) X dX6_isSame_347 (by decide) ?_
  refine v_iload2 X dX6_isSame_348 rfl ?_
  refine v_iast X dX6_isSame_349 ⟨by omega, va_up_self _ _ _⟩ rfl (by decide) (by decide) ?_
  refine vV.gg (va_up_up _ _ _ _) ?_
  refine v_dup X dX6_isSame_350 rfl ?_
  refine v_ico (v := 5) X dX6_isSame_351 (by decide) ?_
  refine v_aload0 X dX6_isSame_352 rfl ?_
  refine gf_X6_83 X dX6_isSame_353 ((jS_s ho hn1).ne (by omega)) ?_
  refine v_iast X dX6_isSame_356 ⟨by omega, va_up_self _ _ _⟩ rfl (by decide) (by decide) ?_
  refine vV.gg (va_up_up _ _ _ _) ?_
  refine v_dup X dX6_isSame_357 rfl ?_
  refine v_bip (v := 6) X dX6_isSame_358 (by decide) ?_
  refine v_aload0 X dX6_isSame_360 rfl ?_
  refine gf_X6_41 X dX6_isSame_361 ((jS_s ho hn1).ne (by omega)) ?_
  refine v_iast X dX6_isSame_364 ⟨by omega, va_up_self _ _ _⟩ rfl (by decide) (by decide) ?_
  refine vV.gg (va_up_up _ _ _ _) ?_
  refine v_dup X dX6_isSame_365 rfl ?_
  refine v_bip (v := 7) X dX6_isSame_366 (by decide) ?_
  refine v_aload0 X dX6_isSame_368 rfl ?_
  refine gf_X6_92 X dX6_isSame_369 ((jS_s ho hn1).ne (by omega)) ?_
  refine v_iast X dX6_isSame_372 ⟨by omega, va_up_self _ _ _⟩ rfl (by decide) (by decide) ?_
  refine vV.gg (va_up_up _ _ _ _) ?_
  refine v_dup X dX6_isSame_373 rfl ?_
  refine v_bip (v := 8) X dX6_isSame_374 (by decide) ?_
  refine v_iload3 X dX6_isSame_376 rfl ?_
  refine v_iast X dX6_isSame_377 ⟨by omega, va_up_self _ _ _⟩ rfl (by decide) (by decide) ?_
  refine vV.gg (va_up_up _ _ _ _) ?_
  refine v_dup X dX6_isSame_378 rfl ?_
  refine v_bip (v := 9) X dX6_isSame_379 (by decide) ?_
  refine v_aload0 X dX6_isSame_381 rfl ?_
  refine gf_X6_119 X dX6_isSame_382 ((jS_s ho hn1).ne (by omega)) ?_
  refine v_iast X dX6_isSame_385 ⟨by omega, va_up_self _ _ _⟩ rfl (by decide) (by decide) ?_
  refine vV.gg (va_up_up _ _ _ _) ?_
  refine v_dup X dX6_isSame_386 rfl ?_
  refine v_bip (v := 10) X dX6_isSame_387 (by decide) ?_
  refine v_iload X dX6_isSame_389 rfl ?_
  refine v_iast X dX6_isSame_391 ⟨by omega, va_up_self _ _ _⟩ rfl (by decide) (by decide) ?_
  refine vV.gg (va_up_up _ _ _ _) ?_
  refine vV.gg (g' := va_up (jW cy ad2 S S ra le g0) n (iA cy 11 (cn S))) rfl ?_
  refine vV.gg (jW_up ho hn) ?_
  have hB2 : BJ cy ad2 S ra le (va_up g0 n (iA cy 11 (cn S))) := (hB.adr (fun j hj => a3 j (by omega))).up (by omega)
  have hcn : vAt (n + 1) (jW cy ad2 S S ra le (va_up g0 n (iA cy 11 (cn S)))) n (iA cy 11 (cn S)) := ⟨by omega, (jW_n ho hn).trans (va_up_self _ _ _)⟩
  obtain ⟨a0, b0, s2, s1, ha9, hb9, hb10⟩ := sums_ok ho
  have hb0 : 0 < b0 := by omega
  have hnn : vf_n64 (FP.ddiv (FP.i2d (sumS 2 S)) (FP.i2d (sm 1 S (sN S)))) := by
    have e : sm 1 S (sN S) = sumS 1 S := rfl
    rw [e, s2, s1]
    exact fq_div ha9 hb9 hb0
  have h426 : vV p l e { frames := 9, cells := 9, slots := 91, locals := 200 } s m A below meth c 10 z0 D 9 91 Q (n + 1) ad2 (jW cy ad2 S S ra le (va_up g0 n (iA cy 11 (cn S)))) 426 [some (.ref (ad2 54)), some (.ref (ad2 0)), some (.int (sm 7 S (sN S))), some (.int (sm 8 S (sN S))), some (.int (sm 1 S (sN S))), some (.int (opP S (sP S))), some (.ref (ad2 n)), none, none, none] [] := by
    refine v_aload1 X dX6_isSame_426 rfl ?_
    refine cd_X6_125 X dX6_isSame_427 (c_full l (hB2.R (by omega)) ho) (jS_r hB2 (by omega)) rfl (Nat.le_of_ble_eq_true rfl) ⟨(Nat.le_of_ble_eq_true rfl), (Nat.le_of_ble_eq_true rfl), (by first | (show _ ≤ 9; omega) | (show _ ≤ 91; omega)), (by first | (show _ ≤ 9; omega) | (show _ ≤ 91; omega))⟩ ?_
    refine v_iload X dX6_isSame_430 rfl ?_
    refine v_if_ne (tgt := 439) X dX6_isSame_432 (by decide) (fun _ => ?_) (fun hc => absurd (show sm 1 S (sN S) = 0 from hc) (by
      have e : sm 1 S (sN S) = sumS 1 S := rfl
      rw [e, s1]
      exact nI_ne0 hb0 (by omega)))
    refine v_aload0 X dX6_isSame_439 rfl ?_
    refine cd_X6_116 X dX6_isSame_440 (j_all l ho hn1 ho.1) (jS_s ho hn1) rfl (Nat.le_of_ble_eq_true rfl) ⟨(Nat.le_of_ble_eq_true rfl), (Nat.le_of_ble_eq_true rfl), (by first | (show _ ≤ 9; omega) | (show _ ≤ 91; omega)), (by first | (show _ ≤ 9; omega) | (show _ ≤ 91; omega))⟩ ?_
    refine v_i2d X dX6_isSame_443 ?_
    refine v_iload X dX6_isSame_444 rfl ?_
    refine v_i2d X dX6_isSame_446 ?_
    refine v_ddiv X dX6_isSame_447 hnn ?_
    refine v_dcmp X dX6_isSame_448 ?_
    have ef : fullA S = FP.ddiv (FP.i2d (sumS 2 S)) (FP.i2d (sm 1 S (sN S))) := by
      unfold fullA
      rw [if_pos (by rw [s1]; exact nI_lt (a := 0) hb0 (by omega))]
      rfl
    rw [ef, fq_cmp hnn]
    refine v_if_ne (tgt := 456) X dX6_isSame_449 (by decide) (fun hc => absurd rfl hc) (fun _ => ?_)
    refine v_ico (v := 1) X dX6_isSame_452 (by decide) ?_
    refine v_goto (tgt := 457) X dX6_isSame_453 (by decide) ?_
    rw [← hQ]
    exact v_zret X hr hlk dX6_isSame_457 rfl rfl
  have hW : ∀ (q j : Nat), q + j = 11 → vV p l e { frames := 9, cells := 9, slots := 91, locals := 200 } s m A below meth c 10 z0 D 9 91 Q (n + 1) ad2 (jW cy ad2 S S ra le (va_up g0 n (iA cy 11 (cn S)))) 397 [some (.ref (ad2 54)), some (.ref (ad2 0)), some (.int (sm 7 S (sN S))), some (.int (sm 8 S (sN S))), some (.int (sm 1 S (sN S))), some (.int (opP S (sP S))), some (.ref (ad2 n)), some (.int (nI j)), none, none] [] := by
    intro q
    induction q with
    | zero =>
      intro j hj
      have : j = 11 := by omega
      subst this
      refine v_iload X dX6_isSame_397 rfl ?_
      refine v_bip (v := 11) X dX6_isSame_399 (by decide) ?_
      refine v_icmp_ge (tgt := 426) X dX6_isSame_401 (by decide) (fun _ => ?_) (fun hc => absurd (Int32.le_refl _) hc)
      exact vV.le (by exact ⟨rfl, rfl, rfl, rfl, rfl, rfl, rfl, trivial⟩) h426
    | succ q ih2 =>
      intro j hqj
      have hj : j < 11 := by omega
      refine v_iload X dX6_isSame_397 rfl ?_
      refine v_bip (v := 11) X dX6_isSame_399 (by decide) ?_
      refine v_icmp_ge (tgt := 426) X dX6_isSame_401 (by decide) (fun hc => ?_) (fun hc => ?_)
      · exact absurd hc (nIge (N := 11) hj (by omega))
      refine v_aload1 X dX6_isSame_404 rfl ?_
      refine v_iload X dX6_isSame_405 rfl ?_
      refine cd_X6_122 X dX6_isSame_407 (c_count l (hB2.R (by omega)) ho hj (IN_0 (b := 10) (by omega) (by omega))) (jS_r hB2 (by omega)) rfl (Nat.le_of_ble_eq_true rfl) ⟨(Nat.le_of_ble_eq_true rfl), (Nat.le_of_ble_eq_true rfl), (by first | (show _ ≤ 9; omega) | (show _ ≤ 91; omega)), (by first | (show _ ≤ 9; omega) | (show _ ≤ 91; omega))⟩ ?_
      refine v_aload X dX6_isSame_410 rfl ?_
      refine v_iload X dX6_isSame_412 rfl ?_
      refine v_iald X dX6_isSame_414 hcn rfl hj (by omega) ?_
      refine v_icmp_eq (tgt := 420) X dX6_isSame_415 (by decide) (fun _ => ?_) (fun hc => absurd (cn_at S hj).symm hc)
      refine v_iinc7 (v := nI (j + 1)) X rfl (Nat.le_of_ble_eq_true rfl) dX6_isSame_420 (nI_inc j) ?_
      refine v_goto (tgt := 397) X dX6_isSame_423 (by decide) ?_
      exact ih2 (j + 1) (by omega)
  refine v_astore6 X rfl (Nat.le_of_ble_eq_true rfl) dX6_isSame_392 ?_
  refine v_ico (v := 0) X dX6_isSame_394 (by decide) ?_
  refine v_istore7 X rfl (Nat.le_of_ble_eq_true rfl) dX6_isSame_395 ?_
  exact hW 11 0 rfl
end SAM
set_option maxRecDepth 100000 in
set_option maxHeartbeats 4000000 in
theorem c_X6_isSame (l : Launch) {z0 n : Nat} {D : va_G} {cy : Nat → ClassId} {ad : Nat → Nat} {S : tS} {ra le : Nat → Int32} {g0 : Nat → va_E} {d : Nat} (hn : 97 + sN S + sP S ≤ n) (hI : IJ cy ad S ra le g0 d) (hN : 1 ≤ sN S) (hN8 : sN S ≤ 8) : CtG l yX6_isSame cX6_isSame 10 (some FieldType.boolean) { frames := 9, cells := 9, slots := 91, locals := 200 } z0 D cy n ad (jW cy ad S S ra le g0) [.ref (ad 54), .ref (ad 0)] PI 9 91 := by
  refine ct_of (by decide +kernel) 8 [some (.ref (ad 54)), some (.ref (ad 0)), none, none, none, none, none, none, none, none] (Nat.le_of_ble_eq_true rfl) rfl ?_
  intro p e s m below meth c X hr hlk hnm
  generalize ([.ref (ad 54), .ref (ad 0)] : List Value).toArray = A at X ⊢
  obtain ⟨ho, hdb, hwk, hd, hB⟩ := hI
  generalize hQ : MQ below (QcR z0 D (PI)) A s 9 91 (fun q => z0 ≤ q) = Q
  refine v_ico (v := 0) X dX6_isSame_0 (by decide) ?_
  refine v_istore2 X rfl (Nat.le_of_ble_eq_true rfl) dX6_isSame_1 ?_
  refine v_ico (v := 0) X dX6_isSame_2 (by decide) ?_
  refine v_istore3 X rfl (Nat.le_of_ble_eq_true rfl) dX6_isSame_3 ?_
  refine v_ico (v := 0) X dX6_isSame_4 (by decide) ?_
  refine v_istore4 X rfl (Nat.le_of_ble_eq_true rfl) dX6_isSame_5 ?_
  refine v_ico (v := 0) X dX6_isSame_7 (by decide) ?_
  refine v_istore5 X rfl (Nat.le_of_ble_eq_true rfl) dX6_isSame_8 ?_
  refine v_ico (v := 0) X dX6_isSame_10 (by decide) ?_
  refine v_istore6 X rfl (Nat.le_of_ble_eq_true rfl) dX6_isSame_11 ?_
  refine vV.wd (k := 0) (n' := 10 * 0) (by omega) (by omega) ?_
  refine vV.le (A := [some (.ref (ad 54)), some (.ref (ad 0)), some (.int (sm 7 S 0)), some (.int (sm 8 S 0)), some (.int (sm 1 S 0)), some (.int 0), some (.int (nI 0)), none, none, none]) ⟨rfl, rfl, rfl, rfl, rfl, rfl, rfl, trivial⟩ ?_
  refine v_sH (l := l) X ho hdb.1 hN8 hn (fun ad hB => ?_) (sN S) 0 (by omega) ad hB
  refine v_ico (v := 0) X dX6_isSame_241 (by decide) ?_
  refine v_istore6 X rfl (Nat.le_of_ble_eq_true rfl) dX6_isSame_242 ?_
  refine vV.le (A := [some (.ref (ad 54)), some (.ref (ad 0)), some (.int (sm 7 S (sN S))), some (.int (sm 8 S (sN S))), some (.int (sm 1 S (sN S))), some (.int (opP S 0)), some (.int (nI 0)), none, none, none]) ⟨rfl, rfl, rfl, rfl, rfl, rfl, rfl, trivial⟩ ?_
  exact v_sP (l := l) X ho hn hB (v_sC (l := l) X hr hlk hQ ho hn hN hB) (sP S) 0 (by omega)
