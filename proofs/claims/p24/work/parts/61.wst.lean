/-! a row of the weather put in another's place -/
def swp (a n : Nat) (k : Nat) : Nat := if k = a then n else if k = n then a else k
theorem swp_a {a n : Nat} : swp a n a = n := if_pos rfl
theorem swp_n {a n : Nat} (h : a ≠ n) : swp a n n = a := by
  unfold swp
  rw [if_neg (Ne.symm h), if_pos rfl]
theorem swp_o {a n k : Nat} (h1 : k ≠ a) (h2 : k ≠ n) : swp a n k = k := by
  unfold swp
  rw [if_neg h1, if_neg h2]
theorem swp_inj {a n i j : Nat} (h : swp a n i = swp a n j) : i = j := by
  unfold swp at h
  split at h <;> split at h <;> (try split at h) <;> (try split at h) <;> omega
section WST
variable {p : Program} {l : Launch} {e : Env} {R : Room} {s : State} {m : MethodId} {args : Array Value} {below : List Frame} {meth : Method} {c : Code} {cells slots : Nat} {Q : State → Prop}
variable {nL z0 n pc : Nat} {D : va_G} {cy : Nat → ClassId} {ad : Nat → Nat} {L : List (Option Value)} {st : List Value}
theorem v_wst {S T : tS} {ra le : Nat → Int32} {g0 : Nat → va_E} {t : Nat} {x y : Int32} (hn : 97 + sN T + sP T ≤ n) (hN : sN S ≤ 10) (hP : sP S ≤ 12) (ht : t < 28)
    (k : vV p l e R s m args below meth c nL z0 D cells slots Q (n + 1) (fun k => ad (swp (56 + t) n k)) (va_up (jW cy (fun k => ad (swp (56 + t) n k)) S T (upd ra t x) (upd le t y) g0) n (iA cy 2 (wr ra le t))) pc L st) :
    vV p l e R s m args below meth c nL z0 D cells slots Q (n + 1) ad (va_up (va_up (jW cy ad S T ra le g0) n (iA cy 2 (upd (upd (fun _ => 0) 0 x) 1 y))) 55 (aA cy 28 (va_up (rf ad 56 28) t (some (ad n))))) pc L st := by
  refine vV.re (swp (56 + t) n) (fun k hk => ⟨?_, rfl, ?_⟩) (fun i j _ _ h => swp_inj h) k
  · unfold swp
    split
    · omega
    · split <;> omega
  have ha : ∀ j, j < 56 → ad (swp (56 + t) n j) = ad j := fun j hj => by rw [swp_o (by omega) (by omega)]
  by_cases k1 : k = 56 + t
  · subst k1
    rw [swp_a, va_up_ne _ _ (by omega), va_up_ne _ _ (by omega), va_up_self]
    unfold jW
    rw [gV_out (by unfold gOut; omega), (gS_wr (Nat.le_refl _) ht).2, wr_s]
  by_cases k2 : k = n
  · subst k2
    rw [swp_n (by omega), va_up_self, va_up_ne _ _ (by omega), va_up_ne _ _ (by omega)]
    unfold jW
    rw [gV_out (by unfold gOut; omega), (gS_wr (Nat.le_refl _) ht).2]
  rw [swp_o k1 k2, va_up_ne _ _ k2]
  by_cases k3 : k = 55
  · subst k3
    rw [va_up_self]
    unfold jW
    rw [gV_out (by unfold gOut; omega), (gS_w (n := n) hn).2]
    refine congrArg (aA cy 28) (funext fun i => ?_)
    show (if i < 28 then some (ad (swp (56 + t) n (56 + i))) else none) = _
    by_cases e : i = t
    · subst e
      rw [va_up_self, swp_a, if_pos ht]
    · rw [va_up_ne _ _ e]
      unfold rf
      by_cases hi : i < 28
      · rw [if_pos hi, if_pos hi, swp_o (by omega) (by omega)]
      · rw [if_neg hi, if_neg hi]
  rw [va_up_ne _ _ k3, va_up_ne _ _ k2]
  have had : ∀ j, j ≠ 56 + t → j < n → ad (swp (56 + t) n j) = ad j := fun j h1 h2 => by rw [swp_o h1 (by omega)]
  have eS : gS cy (fun k => ad (swp (56 + t) n k)) T (upd ra t x) (upd le t y) g0 k = gS cy ad T ra le g0 k :=
    gS_ext rfl rfl (fun _ => rfl) (fun _ => cS_adk (ad' := fun k => ad (swp (56 + t) n k)) (S := T) (T := T) rfl (had 55 (by omega) (by omega)) (had 95 (by omega) (by omega)) (had 96 (by omega) (by omega)) (had 84 (by omega) (by omega))) (fun q => absurd q k3) (fun _ _ => wr_ne (by omega)) (fun _ => rf_ad (fun i hi => had _ (by omega) (by omega))) (fun _ _ => rfl) (fun _ => rf_ad (fun i hi => had _ (by omega) (by omega))) (fun _ => rf_ad (fun i hi => had _ (by omega) (by omega))) (fun _ _ => rfl) (fun _ _ => rfl)
  unfold jW
  rw [gV_ad (ad' := fun k => ad (swp (56 + t) n k)) (ad := ad) (ha 1 (by omega)) (fun j h1 h2 => ha j (by omega))]
  unfold gV
  rw [eS]
end WST
