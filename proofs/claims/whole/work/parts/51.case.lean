/-! the law's world, and what a call of both sides does to it -/
def BS (cy : Nat → ClassId) (ad : Nat → Nat) (S : tS) (ra le : Nat → Int32) (g : Nat → va_E) : Prop := RO ad 62 g ∧ WX cy ad 62 g ra le ∧ VB cy ad 62 g 29 ∧ (∀ j, sN S ≤ j → j < 10 → g (4 + 3 + j) = cH dfH) ∧ (∀ j, sP S ≤ j → j < 12 → g (4 + 13 + j) = cP dfQ) ∧ ∃ f, g 61 = oA cy f
section BS
variable {cy : Nat → ClassId} {ad : Nat → Nat} {S S' : tS} {ra le : Nat → Int32} {g g1 : Nat → va_E}
theorem BS.eq (h : BS cy ad S ra le g) (he : ∀ k, k < 54 → g1 k = g k) (hf : ∃ f, g1 61 = oA cy f) : BS cy ad S ra le g1 := by
  obtain ⟨h1, h2, h3, h4, h5, h6⟩ := h
  refine ⟨⟨h1.1, ⟨by omega, (he 0 (by omega)).trans h1.2.2⟩⟩, ⟨⟨by omega, (he 1 (by omega)).trans h2.1.2⟩, ⟨by omega, (he 2 (by omega)).trans h2.2.1.2⟩, ⟨by omega, (he 3 (by omega)).trans h2.2.2.2⟩⟩, ?_, fun j a b => (he _ (by omega)).trans (h4 j a b), fun j a b => (he _ (by omega)).trans (h5 j a b), hf⟩
  obtain ⟨v1, ⟨T, v2⟩, v3, v4, v5, v6⟩ := h3
  exact ⟨v1, ⟨T, (he _ (by omega)).trans v2⟩, (he _ (by omega)).trans v3, (he _ (by omega)).trans v4, fun i hi => by obtain ⟨f, hf⟩ := v5 i hi; exact ⟨f, (he _ (by omega)).trans hf⟩, fun i hi => by obtain ⟨f, hf⟩ := v6 i hi; exact ⟨f, (he _ (by omega)).trans hf⟩⟩
theorem BS.gM {th : Int32} {ra2 le2 : Nat → Int32} {T : tS} (h : BS cy ad S ra le g) : BS cy ad S ra le (gM cy ad th ra2 le2 T g) := h.eq (fun k hk => gM_o (by omega)) (by obtain ⟨f, hf⟩ := h.2.2.2.2.2; exact ⟨f, (gM_o (by omega)).trans hf⟩)
theorem BS.up (h : BS cy ad S ra le g) (f : Nat → Int64) : BS cy ad S ra le (va_up g 61 (oA cy f)) := h.eq (fun k hk => va_up_ne _ _ (by omega)) ⟨f, va_up_self _ _ _⟩
theorem BS.tr (h : BS cy ad S ra le g) (ht : TR cy ad 62 g g1) : BS cy ad S ra le g1 := by
  obtain ⟨h1, h2, h3, h4, h5, f, h6⟩ := h
  exact ⟨ht.R h1, ht.W h2, ht.1, fun j a b => (ht.2 _ (by omega)).trans (h4 j a b), fun j a b => (ht.2 _ (by omega)).trans (h5 j a b), f, (ht.2 _ (by omega)).trans h6⟩
theorem BS.mono (h : BS cy ad S ra le g) (hN : sN S ≤ sN S') (hP : sP S ≤ sP S') : BS cy ad S' ra le g := by
  obtain ⟨h1, h2, h3, h4, h5, h6⟩ := h
  exact ⟨h1, h2, h3, fun j a b => h4 j (by omega) b, fun j a b => h5 j (by omega) b, h6⟩
theorem BS.we (h : BS cy ad S ra le g) (ra2 le2 : Nat → Int32) : BS cy ad S ra2 le2 (va_up (va_up g 2 (.inl (cy 0, 28, .inl ra2))) 3 (.inl (cy 0, 28, .inl le2))) := by
  obtain ⟨h1, h2, h3, h4, h5, f, h6⟩ := h
  have e : ∀ k, k ≠ 2 → k ≠ 3 → va_up (va_up g 2 (.inl (cy 0, 28, .inl ra2))) 3 (.inl (cy 0, 28, .inl le2)) k = g k := fun k a b => by rw [va_up_ne _ _ b, va_up_ne _ _ a]
  obtain ⟨v1, ⟨T, v2⟩, v3, v4, v5, v6⟩ := h3
  exact ⟨⟨h1.1, by omega, (e 0 (by omega) (by omega)).trans h1.2.2⟩, ⟨⟨by omega, (e 1 (by omega) (by omega)).trans h2.1.2⟩, ⟨by omega, by rw [va_up_ne _ _ (by omega), va_up_self]⟩, ⟨by omega, va_up_self _ _ _⟩⟩, ⟨v1, ⟨T, (e _ (by omega) (by omega)).trans v2⟩, (e _ (by omega) (by omega)).trans v3, (e _ (by omega) (by omega)).trans v4, fun i hi => by obtain ⟨f, hf⟩ := v5 i hi; exact ⟨f, (e _ (by omega) (by omega)).trans hf⟩, fun i hi => by obtain ⟨f, hf⟩ := v6 i hi; exact ⟨f, (e _ (by omega) (by omega)).trans hf⟩⟩, fun j a b => (e _ (by omega) (by omega)).trans (h4 j a b), fun j a b => (e _ (by omega) (by omega)).trans (h5 j a b), f, (e 61 (by omega) (by omega)).trans h6⟩
theorem gM_gV {th : Int32} {T : tS} (ho : ok S) : gM cy ad th ra le T (gV cy ad 4 S g) = gV cy ad 4 S (gM cy ad th ra le T g) := by
  have hN := ho.1
  have hP := ho.2.1
  funext k
  by_cases c : k < 54 ∨ 61 ≤ k
  · rw [gM_o c]
    by_cases c2 : gOut 4 (sN S) (sP S) k
    · rw [gV_out c2, gV_out c2, gM_o c]
    · unfold gV
      rw [gM_o c]
  · rw [gV_out (by unfold gOut; omega)]
    unfold gM gM0
    by_cases c1 : k = 54
    · rw [if_pos c1, if_pos c1]
    by_cases c2 : k = 55
    · rw [if_neg c1, if_neg c1, if_pos c2, if_pos c2]
    by_cases c3 : k = 56
    · rw [if_neg c1, if_neg c1, if_neg c2, if_neg c2, if_pos c3, if_pos c3]
    by_cases c4 : k = 57
    · rw [if_neg c1, if_neg c1, if_neg c2, if_neg c2, if_neg c3, if_neg c3, if_pos c4, if_pos c4]
    by_cases c5 : k = 58
    · rw [if_neg c1, if_neg c1, if_neg c2, if_neg c2, if_neg c3, if_neg c3, if_neg c4, if_neg c4, if_pos c5, if_pos c5]
    by_cases c6 : k = 59
    · rw [if_neg c1, if_neg c1, if_neg c2, if_neg c2, if_neg c3, if_neg c3, if_neg c4, if_neg c4, if_neg c5, if_neg c5, if_pos c6, if_pos c6]
    by_cases c7 : k = 60
    · rw [if_neg c1, if_neg c1, if_neg c2, if_neg c2, if_neg c3, if_neg c3, if_neg c4, if_neg c4, if_neg c5, if_neg c5, if_neg c6, if_neg c6, if_pos c7, if_pos c7]
    omega
/-- a world that has the model's cells already -/
theorem gM_abs {th : Int32} {T : tS} {g0 : Nat → va_E} (h : ∀ k, 54 ≤ k → k < 61 → g1 k = gM cy ad th ra le T g0 k) : g1 = gM cy ad th ra le T g1 := by
  funext k
  by_cases c : k < 54 ∨ 61 ≤ k
  · rw [gM_o c]
  · rw [h k (by omega) (by omega)]
    unfold gM gM0
    by_cases c1 : k = 54
    · rw [if_pos c1, if_pos c1]
    by_cases c2 : k = 55
    · rw [if_neg c1, if_neg c1, if_pos c2, if_pos c2]
    by_cases c3 : k = 56
    · rw [if_neg c1, if_neg c1, if_neg c2, if_neg c2, if_pos c3, if_pos c3]
    by_cases c4 : k = 57
    · rw [if_neg c1, if_neg c1, if_neg c2, if_neg c2, if_neg c3, if_neg c3, if_pos c4, if_pos c4]
    by_cases c5 : k = 58
    · rw [if_neg c1, if_neg c1, if_neg c2, if_neg c2, if_neg c3, if_neg c3, if_neg c4, if_neg c4, if_pos c5, if_pos c5]
    by_cases c6 : k = 59
    · rw [if_neg c1, if_neg c1, if_neg c2, if_neg c2, if_neg c3, if_neg c3, if_neg c4, if_neg c4, if_neg c5, if_neg c5, if_pos c6, if_pos c6]
    by_cases c7 : k = 60
    · rw [if_neg c1, if_neg c1, if_neg c2, if_neg c2, if_neg c3, if_neg c3, if_neg c4, if_neg c4, if_neg c5, if_neg c5, if_neg c6, if_neg c6, if_pos c7, if_pos c7]
    omega
end BS
/-- the law's world behind some calls: at most d days have gone by, and thrown is th -/
def Inv (cy : Nat → ClassId) (ad : Nat → Nat) (d : Nat) (th : Int32) (g : Nat → va_E) : Prop := ∃ S ra le g0 d0, ok S ∧ dbJ S ∧ wok ra le ∧ sM S 0 = nI d0 ∧ d0 ≤ d ∧ BS cy ad S ra le g0 ∧ g = gM cy ad th ra le S (gV cy ad 4 S g0)
/-- both sides of a call: the wrapper, then the model's method -/
def CO (l : Launch) (yL : MethodName) (cL : ByteArray) (mlL : Nat) (hhL : List (Nat × Nat × Nat × Nat)) (fL loL : Nat) (yM : MethodName) (cM : ByteArray) (mlM : Nat) (tM : FieldType) (z0 : Nat) (D : va_G) (cy : Nat → ClassId) (ad : Nat → Nat) (d : Nat) (g : Nat → va_E) (avW avM : List Value) : Prop :=
  ∃ PW : CtP, CtW l yL cL mlL (some .int) hhL fL loL z0 D cy 62 ad g avW PW ∧ ∀ r n' ad' g1, PW r n' ad' g1 → ∃ (k b : Int32) (g2 : Nat → va_E) (rm : Room) (mc ms : Nat), r = some (.int k) ∧ n' = 62 ∧ ad' = ad ∧ (rm.cells = mc ∧ rm.slots = ms ∧ rm.frames ≤ 9 ∧ rm.locals ≤ 300 ∧ mc ≤ 95 ∧ ms ≤ 629) ∧ (∃ e1 fs, vAt 62 g1 54 e1 ∧ e1 = .inr (5, fs)) ∧ CtG l yM cM mlM (some tM) rm z0 D cy 62 ad g1 avM (isR (some (.int b)) 62 ad g2) mc ms ∧ Inv cy ad d k g2 ∧ (k = 0 → ∃ f, vAt 62 g2 61 (oA cy f) ∧ f 0 = b.toInt64) ∧ (tM = .boolean → isB b)
/-- the class's end: another state, the model's cells as they were -/
def gG (cy : Nat → ClassId) (ad : Nat → Nat) (S' : tS) (ra' le' : Nat → Int32) (g0 : Nat → va_E) : (Nat → va_E) → Prop := fun g' => ∃ g1, BS cy ad S' ra' le' g1 ∧ (∀ k, 54 ≤ k → k < 61 → g1 k = g0 k) ∧ g' = gV cy ad 4 S' g1
theorem gG.out {cy : Nat → ClassId} {ad : Nat → Nat} {S' : tS} {ra' le' : Nat → Int32} {g0 : Nat → va_E} (ho : ok S') : ∀ g1, gG cy ad S' ra' le' g0 g1 → ∃ f, vAt 62 g1 61 (oA cy f) := by
  rintro g' ⟨g1, h1, h2, rfl⟩
  obtain ⟨f, hf⟩ := h1.2.2.2.2.2
  have hN := ho.1
  have hP := ho.2.1
  exact ⟨f, by omega, (gV_out (by unfold gOut; omega)).trans hf⟩
theorem CO.ret {l : Launch} {yL : MethodName} {cL : ByteArray} {mlL : Nat} {hhL : List (Nat × Nat × Nat × Nat)} {fL loL : Nat} {yM : MethodName} {cM : ByteArray} {mlM : Nat} {tM : FieldType} {z0 : Nat} {D : va_G} {cy : Nat → ClassId} {ad : Nat → Nat} {d d1 : Nat} {avW avM : List Value} {th v : Int32} {ra le ra' le' : Nat → Int32} {S S' : tS} {g0 : Nat → va_E} {rm : Room} {mc ms : Nat}
    (hB : tM = .boolean → isB v) (ho' : ok S') (hdb : dbJ S') (hwk : wok ra' le') (hd : sM S' 0 = nI d1) (hd1 : d1 ≤ d)
    (hW : CtW l yL cL mlL (some .int) hhL fL loL z0 D cy 62 ad (gV cy ad 4 S (gM cy ad th ra le S g0)) avW (wP v.toInt64 cy 62 ad (gG cy ad S' ra' le' (gM cy ad th ra le S g0))))
    (hrm : rm.cells = mc ∧ rm.slots = ms ∧ rm.frames ≤ 9 ∧ rm.locals ≤ 300 ∧ mc ≤ 95 ∧ ms ≤ 629)
    (hM : ∀ h : Nat → va_E, CtG l yM cM mlM (some tM) rm z0 D cy 62 ad (gM cy ad th ra le S h) avM (isR (some (.int v)) 62 ad (gM cy ad 0 ra' le' S' h)) mc ms) : CO l yL cL mlL hhL fL loL yM cM mlM tM z0 D cy ad d (gV cy ad 4 S (gM cy ad th ra le S g0)) avW avM := by
  refine ⟨_, hW, ?_⟩
  rintro r n' ad' g1 ⟨rfl, rfl, rfl, g2, f, ⟨g3, b1, b2, rfl⟩, hf, rfl⟩
  have hN := ho'.1
  have hP := ho'.2.1
  have e1 : va_up (gV cy ad' 4 S' g3) 61 (oA cy f) = gM cy ad' th ra le S (gV cy ad' 4 S' (va_up g3 61 (oA cy f))) := by
    rw [gV_upo (by unfold gOut; omega)]
    refine gM_abs (g0 := g0) (fun k h1 h2 => ?_)
    rw [gV_out (by unfold gOut; omega), va_up_ne _ _ (by omega), b2 k h1 h2]
  rw [e1]
  exact ⟨0, v, _, rm, mc, ms, rfl, rfl, rfl, hrm, ⟨_, _, ⟨by omega, rfl⟩, rfl⟩, hM _, ⟨S', ra', le', _, d1, ho', hdb, hwk, hd, hd1, b1.up f, rfl⟩, fun _ => ⟨f, ⟨by omega, (gM_o (by omega)).trans ((gV_out (by unfold gOut; omega)).trans (va_up_self _ _ _))⟩, hf⟩, hB⟩
theorem CO.thr {l : Launch} {yL : MethodName} {cL : ByteArray} {mlL : Nat} {hhL : List (Nat × Nat × Nat × Nat)} {fL loL : Nat} {yM : MethodName} {cM : ByteArray} {mlM : Nat} {tM : FieldType} {z0 : Nat} {D : va_G} {cy : Nat → ClassId} {ad : Nat → Nat} {d d1 : Nat} {avW avM : List Value} {th k : Int32} {ra le : Nat → Int32} {S : tS} {g0 : Nat → va_E} {f lo : Nat}
    (ho : ok S) (hdb : dbJ S) (hwk : wok ra le) (hd : sM S 0 = nI d1) (hd1 : d1 ≤ d) (hb : BS cy ad S ra le g0) (hk : k ≠ 0)
    (hW : CtW l yL cL mlL (some .int) hhL fL loL z0 D cy 62 ad (gV cy ad 4 S (gM cy ad th ra le S g0)) avW (isR (some (.int k)) 62 ad (gV cy ad 4 S (gM cy ad th ra le S g0))))
    (hrm : f ≤ 9 ∧ lo ≤ 300)
    (hM : ∀ h : Nat → va_E, CtG l yM cM mlM (some tM) (rmv f lo) z0 D cy 62 ad (gM cy ad th ra le S h) avM (isR (some (.int 0)) 62 ad (gM cy ad k ra le S h)) 0 0) : CO l yL cL mlL hhL fL loL yM cM mlM tM z0 D cy ad d (gV cy ad 4 S (gM cy ad th ra le S g0)) avW avM := by
  refine ⟨_, hW, ?_⟩
  rintro r n' ad' g1 ⟨rfl, rfl, rfl, rfl⟩
  rw [← gM_gV ho]
  exact ⟨k, 0, _, _, 0, 0, rfl, rfl, rfl, ⟨rfl, rfl, hrm.1, hrm.2, by decide, by decide⟩, ⟨_, _, ⟨by omega, rfl⟩, rfl⟩, hM _, ⟨S, ra, le, g0, d1, ho, hdb, hwk, hd, hd1, hb, rfl⟩, fun q => absurd q hk, fun _ => Or.inl rfl⟩
/-- a class's method that leaves the trial alone -/
theorem gG.of {cy : Nat → ClassId} {ad : Nat → Nat} {S' : tS} {ra' le' : Nat → Int32} {g0 g1 : Nat → va_E} (h : BS cy ad S' ra' le' g1) (h2 : ∀ k, 54 ≤ k → k < 61 → g1 k = g0 k) : gG cy ad S' ra' le' g0 (gV cy ad 4 S' g1) := ⟨g1, h, h2, rfl⟩
theorem ct_G {l : Launch} {y : MethodName} {bytes : ByteArray} {maxL f lo z0 : Nat} {ret : Option FieldType} {D : va_G} {cy : Nat → ClassId} {ad : Nat → Nat} {g g' : Nat → va_E} {v : Int32} {av : List Value} {G : (Nat → va_E) → Prop} (h : Ct0 l y bytes maxL ret f lo z0 D cy 62 ad g av (some (.int v)) g') (hG : G g') : CtG l y bytes maxL ret (rmv f lo) z0 D cy 62 ad g av (gP v 62 ad G) 0 0 := ct_mono h (fun r n' ad' g1 q => by
  obtain ⟨rfl, rfl, rfl, rfl⟩ := q
  exact ⟨rfl, rfl, rfl, hG⟩)
theorem ct_T {l : Launch} {y : MethodName} {bytes : ByteArray} {maxL z0 : Nat} {rm : Room} {ret : Option FieldType} {D : va_G} {cy : Nat → ClassId} {ad : Nat → Nat} {g : Nat → va_E} {v : Int32} {av : List Value} {S : tS} {ra le : Nat → Int32} {g0 : Nat → va_E} (hb : BS cy ad S ra le g0) (h : CtG l y bytes maxL ret rm z0 D cy 62 ad g av (tP v cy ad 62 S g0) 0 0) : CtG l y bytes maxL ret rm z0 D cy 62 ad g av (gP v 62 ad (gG cy ad S ra le g0)) 0 0 := ct_mono h (fun r n' ad' g1 q => by
  obtain ⟨rfl, rfl, rfl, g2, h1, rfl⟩ := q
  exact ⟨rfl, rfl, rfl, g2, hb.tr h1, fun k a b => h1.2 k (by omega), rfl⟩)
