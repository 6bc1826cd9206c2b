section
/-- a private method of a class that the tables say can be made, by its rows of tables_1 -/
def lw_okq (q : MethodName × Nat) : Prop := (q.1.cls ≠ "java/lang/invoke/MethodHandle" ∧ q.1.cls ≠ "java/lang/invoke/VarHandle") ∧ Cond.instantiable q.1.cls q.2 ∈ tables_1 ∧ Cond.privateMethod q.1 ∈ tables_1 ∧ Cond.instanceMethod q.1 ∈ tables_1
theorem lw_p0 : lw_okq (⟨"RoofWater", "needHouse", "(I)V"⟩, 3) := ⟨⟨by decide +kernel, by decide +kernel⟩, List.mem_of_getElem? (i := 16) (by decide +kernel), List.mem_of_getElem? (i := 178) (by decide +kernel), List.mem_of_getElem? (i := 179) (by decide +kernel)⟩
theorem lw_p1 : lw_okq (⟨"java/lang/Throwable", "fillInStackTrace", "(I)Ljava/lang/Throwable;"⟩, 6) := ⟨⟨by decide +kernel, by decide +kernel⟩, List.mem_of_getElem? (i := 224) (by decide +kernel), List.mem_of_getElem? (i := 222) (by decide +kernel), List.mem_of_getElem? (i := 223) (by decide +kernel)⟩
theorem lw_p2 : lw_okq (⟨"RoofWater", "needPipe", "(I)V"⟩, 3) := ⟨⟨by decide +kernel, by decide +kernel⟩, List.mem_of_getElem? (i := 16) (by decide +kernel), List.mem_of_getElem? (i := 269) (by decide +kernel), List.mem_of_getElem? (i := 270) (by decide +kernel)⟩
theorem lw_p3 : lw_okq (⟨"RoofWater$Village", "allThirst", "()I"⟩, 10) := ⟨⟨by decide +kernel, by decide +kernel⟩, List.mem_of_getElem? (i := 38) (by decide +kernel), List.mem_of_getElem? (i := 321) (by decide +kernel), List.mem_of_getElem? (i := 322) (by decide +kernel)⟩
theorem lw_p4 : lw_okq (⟨"RoofWater$Village", "liveDay", "()V"⟩, 10) := ⟨⟨by decide +kernel, by decide +kernel⟩, List.mem_of_getElem? (i := 38) (by decide +kernel), List.mem_of_getElem? (i := 325) (by decide +kernel), List.mem_of_getElem? (i := 326) (by decide +kernel)⟩
theorem lw_p5 : lw_okq (⟨"RoofWater$Village", "rainDown", "(I)V"⟩, 10) := ⟨⟨by decide +kernel, by decide +kernel⟩, List.mem_of_getElem? (i := 38) (by decide +kernel), List.mem_of_getElem? (i := 336) (by decide +kernel), List.mem_of_getElem? (i := 337) (by decide +kernel)⟩
theorem lw_p6 : lw_okq (⟨"RoofWater$Village", "openPipesFlow", "()V"⟩, 10) := ⟨⟨by decide +kernel, by decide +kernel⟩, List.mem_of_getElem? (i := 38) (by decide +kernel), List.mem_of_getElem? (i := 364) (by decide +kernel), List.mem_of_getElem? (i := 365) (by decide +kernel)⟩
theorem lw_p7 : lw_okq (⟨"RoofWater$Village", "allWatered", "()I"⟩, 10) := ⟨⟨by decide +kernel, by decide +kernel⟩, List.mem_of_getElem? (i := 38) (by decide +kernel), List.mem_of_getElem? (i := 399) (by decide +kernel), List.mem_of_getElem? (i := 400) (by decide +kernel)⟩
theorem lw_p8 : lw_okq (⟨"RoofWater$Village", "openValves", "()I"⟩, 10) := ⟨⟨by decide +kernel, by decide +kernel⟩, List.mem_of_getElem? (i := 38) (by decide +kernel), List.mem_of_getElem? (i := 403) (by decide +kernel), List.mem_of_getElem? (i := 404) (by decide +kernel)⟩
def lw_privs_1 : List (MethodName × Nat) := [(⟨"RoofWater", "needHouse", "(I)V"⟩, 3), (⟨"java/lang/Throwable", "fillInStackTrace", "(I)Ljava/lang/Throwable;"⟩, 6), (⟨"RoofWater", "needPipe", "(I)V"⟩, 3), (⟨"RoofWater$Village", "allThirst", "()I"⟩, 10), (⟨"RoofWater$Village", "liveDay", "()V"⟩, 10), (⟨"RoofWater$Village", "rainDown", "(I)V"⟩, 10), (⟨"RoofWater$Village", "openPipesFlow", "()V"⟩, 10), (⟨"RoofWater$Village", "allWatered", "()I"⟩, 10), (⟨"RoofWater$Village", "openValves", "()I"⟩, 10)]
theorem lw_r1 : ∀ q ∈ lw_privs_1, lw_okq q := List.forall_mem_cons.mpr ⟨lw_p0, List.forall_mem_cons.mpr ⟨lw_p1, List.forall_mem_cons.mpr ⟨lw_p2, List.forall_mem_cons.mpr ⟨lw_p3, List.forall_mem_cons.mpr ⟨lw_p4, List.forall_mem_cons.mpr ⟨lw_p5, List.forall_mem_cons.mpr ⟨lw_p6, List.forall_mem_cons.mpr ⟨lw_p7, List.forall_mem_cons.mpr ⟨lw_p8, fun _ h => absurd h List.not_mem_nil⟩⟩⟩⟩⟩⟩⟩⟩⟩
def lw_privs : List (MethodName × Nat) := lw_privs_1
def lw_tbl : List Cond := k2_sels lw_privs ++ tables_1
theorem lw_privs_ok : ∀ q ∈ lw_privs, lw_okq q := lw_r1
/-- the streams that the claim lets the run draw from -/
abbrev lw_cs : List Choice := [Jvm.Choice.named "NaN.bits"]
theorem lw_bits : nanBits ∈ lw_cs := by first | decide | exact List.mem_cons_self | simp [lw_cs, nanBits]
/-! a word that the printed rows of new T[n][m] name, and do not define -/
def va_AOA (t : FieldType) (U : State) : Prop := (Cond.arrayOver (.array t)).before #[] U = true
theorem va_AOA.use {t : FieldType} {A : Array Value} {U : State} (h : va_AOA t U) : (Cond.arrayOver (.array t)).before A U = true := h
end
section
/-! ===== BEGIN words of one list among another's, by their places ===== -/
theorem goodIn_r {big : List Cond} (ws : List Cond) (ps : List Nat) (hp : ws = ps.filterMap (fun i => big[i]?)) (h : ws.all goodWord = true) : GoodIn big ws := by
  intro w hw
  have h1 := List.all_eq_true.mp h w hw
  rw [hp] at hw
  obtain ⟨i, -, hi⟩ := List.mem_filterMap.mp hw
  have hm : w ∈ big := by first | exact List.mem_of_getElem? hi | exact List.getElem?_mem hi
  exact ⟨hm, good_of_word h1⟩
theorem goodIn_app {big a b : List Cond} (ha : GoodIn big a) (hb : GoodIn big b) : GoodIn big (a ++ b) := fun w h => (List.mem_append.mp h).elim (ha w) (hb w)
theorem goodIn_ca {big a b : List Cond} {c : Cond} (ha : GoodIn big (c :: a)) (hb : GoodIn big b) : GoodIn big (c :: (a ++ b)) := fun w h => (List.mem_cons.mp h).elim (fun e => ha w (List.mem_cons.mpr (Or.inl e))) (fun h => (List.mem_append.mp h).elim (fun h => ha w (List.mem_cons.mpr (Or.inr h))) (hb w))
theorem goodIn_sub {big ws : List Cond} (hm : ∀ w ∈ ws, w ∈ big) (h : ws.all goodWord = true) : GoodIn big ws := fun w hw => ⟨hm w hw, good_of_word (List.all_eq_true.mp h w hw)⟩
/-! ===== END ===== -/

/-! ===== BEGIN new T[n][m]: the outer array a place, the inner ones among the pooled ===== -/
/-- f, but v at every address of l -/
def vr_up {α : Type} (f : Nat → α) (l : List Nat) (v : α) : Nat → α := fun a => if a ∈ l then v else f a
theorem vr_up_in {α : Type} {f : Nat → α} {l : List Nat} {v : α} {a : Nat} (h : a ∈ l) : vr_up f l v a = v := if_pos h
theorem vr_up_ne {α : Type} {f : Nat → α} {l : List Nat} {v : α} {a : Nat} (h : a ∉ l) : vr_up f l v a = f a := if_neg h
theorem vr_rows {L l : List Nat} {f : Nat → va_E} {e : va_E} (h : ∀ a, a ∈ l → a ∉ L) : va_pl L f ++ l.map (fun a => (a, e)) = va_pl (L ++ l) (vr_up f l e) := by
  unfold va_pl
  rw [List.map_append]
  congr 1
  · apply List.map_congr_left
    intro a ha
    rw [vr_up_ne (fun q => h a q ha)]
  · apply List.map_congr_left
    intro a ha
    rw [vr_up_in ha]
theorem vr_lay {X rows : va_W} {x : Nat × va_E} {pl : va_W} {D : va_G} {cl : List vw_C} {H : Heap} (hP : va_P D cl (((X ++ pl) ++ [x]) ++ rows) H) : va_P D cl ((X ++ [x]) ++ (pl ++ rows)) H := by
  rw [List.append_assoc (X ++ pl)] at hP
  have h := va_P.swap hP
  rw [← List.append_assoc X] at h
  have h2 := va_P.swap h
  rw [List.append_assoc (X ++ [x])] at h2
  exact h2
theorem vr_layD {X rows : va_W} {x : Nat × va_E} {pl : va_W} {A : Nat → Prop} (hD : va_D A (((X ++ pl) ++ [x]) ++ rows)) : va_D A ((X ++ [x]) ++ (pl ++ rows)) := by
  rw [List.append_assoc (X ++ pl)] at hD
  have h := va_D.swap hD
  rw [← List.append_assoc X] at h
  have h2 := va_D.swap h
  rw [List.append_assoc (X ++ [x])] at h2
  exact h2
theorem vr_outer (c : ClassId) (N h0 : Nat) : ∀ i : Nat, Jvm.Free.Multi.outerC c N h0 i = arrV c N (fun j => va_rf (if j < i then some (h0 + 1 + j) else none))
  | 0 => by
    show ({ cls := c, slots := Array.replicate N .null, vm := .none } : Cell) = _
    rw [arrV_new]
    refine congrArg (arrV c N) (funext fun j => ?_)
    simp [va_rf]
  | i + 1 => by
    show (Jvm.Free.Multi.outerC c N h0 i).setSlot i (.ref (h0 + 1 + i)) = _
    rw [vr_outer c N h0 i, arrV_store]
    refine congrArg (arrV c N) (funext fun j => ?_)
    by_cases e : j = i
    · subst e
      simp [updV, va_rf]
    · by_cases h : j < i
      · simp [updV, e, h, Nat.lt_succ_of_lt h]
      · simp [updV, e, h, show ¬ j < i + 1 by omega]
section VGM
variable {p : Program} {l : Launch} {e : Env} {R : Room} {s : State} {m : MethodId} {args : Array Value} {below : List Frame} {meth : Method} {c : Code} {H : Heap} {locs : List Loc} {cells slots : Nat} {Q : State → Prop}
variable {cc : ByteArray} {pc : Nat} {ls : Array Slot} {rest : List Value} {D : va_G} {cl : List vw_C} {A : Nat → Prop} {a : Nat} {tys : List (ClassId × FieldType)} {ws : va_W} {H0 : Heap}
theorem va_mna {X : va_W} {L : List Nat} {f : Nat → va_E} {cc : ByteArray} (hexec : p.tables.exec = Jvm.exec) (hb : c.code = cc) {own : String} {index : Nat} {ty : FieldType} {cy : ClassId} (hown : s.vm.findClass own = some m.cls) (hclink : (Cond.classLink own index ("[" ++ (FieldType.array ty).toString)).before args s = true) (hover : va_AOA ty s) (harr : (Cond.arrayClass ty).before args s = true) (hcy : s.vm.findClass (FieldType.array ty).toString = some cy)
    (hK : va_K D cl tys s) (hP : va_P D cl (X ++ va_pl L f) H) (hD : va_D A (X ++ va_pl L f)) (hS : va_S A H0 H locs) (hA : ∀ q, H0.size ≤ q → A q) {n k : Int32} {N' K' : Nat} {z : vp_A} (hn : ¬ n < 0) (hk : ¬ k < 0) (hN : n.toNatClampNeg = N') (hM : k.toNatClampNeg = K')
    (hb1 : N' * 4 ≤ 536870912) (hb2 : K' * componentBytes ty ≤ 536870912) (hb3 : K' ≤ 536870912) (hdf : fits ty (defaultValue ty) = true) (hdd : (defaultValue ty).isDefault = true) (hcells : cells + (1 + N') ≤ R.cells) (hslots : slots + (N' + N' * K') ≤ R.slots) (hz : ∀ c : ClassId, Jvm.Free.Multi.innerC c K' (defaultValue ty) = vp_cell c z) (hdg : decode cc pc = .ok (.multianewarray index 2, 4))
    (kk : ∀ (q : Nat) (r : Nat → Nat) (cA : ClassId) (H1 : Heap), (∀ i j : Nat, i < N' → j < N' → r i = r j → i = j) → (∀ i : Nat, i < N' → r i ∉ L) → va_K D cl (tys ++ [(cA, .array ty)]) s →
      va_P D cl ((X ++ [(q, .inl (cA, N', .inr (.inr (.inr (.inr (fun i => if i < N' then some (r i) else none))))))]) ++ va_pl (L ++ (List.range N').map r) (vr_up f ((List.range N').map r) (.inl (cy, z)))) H1 → va_D A ((X ++ [(q, .inl (cA, N', .inr (.inr (.inr (.inr (fun i => if i < N' then some (r i) else none))))))]) ++ va_pl (L ++ (List.range N').map r) (vr_up f ((List.range N').map r) (.inl (cy, z)))) → va_S A H0 H1 locs →
      W p l e R s m args below meth c H1 locs (cells + 1 + N') (slots + N' + N' * K') Q (F0 m (pc + 4) ls (.ref q :: rest))) : W p l e R s m args below meth c H locs cells slots Q (F0 m pc ls (.int k :: .int n :: rest)) := by
  subst hN
  subst hM
  intro T hT Xs
  obtain ⟨vm₁, cA, comp, -, fA, fC, hO, -, X', step⟩ := Xs.multianewarray2F hexec hown hclink (va_AOA.use hover) harr (g := F0 m pc ls (.int k :: .int n :: rest)) rfl (by rw [hb]; exact hdg) rfl hn hk hb1 hb2 hb3 hdf hdd hcells hslots
  have ec : some cy = some comp := hcy.symm.trans fC
  cases ec
  generalize hF : Jvm.Free.Multi.fill (T.setVm vm₁) cA cy n.toNatClampNeg k.toNatClampNeg (defaultValue ty) n.toNatClampNeg = F at X' step
  have hTh : (T.setVm vm₁).heap = H := hT
  obtain ⟨f1, f2, -, -⟩ := Jvm.Free.Multi.fill_facts (T.setVm vm₁) cA cy n.toNatClampNeg k.toNatClampNeg (defaultValue ty) n.toNatClampNeg
  rw [hF, hTh] at f1 f2
  have hold : ∀ x : Nat, x < H.size → F.heap[x]? = H[x]? := fun x hx => by
    have := Jvm.Free.Multi.fill_old (T.setVm vm₁) cA cy n.toNatClampNeg k.toNatClampNeg (defaultValue ty) (a := x) (by rw [hTh]; exact hx) n.toNatClampNeg
    rw [hF, hTh] at this
    exact this
  have hrow : ∀ j : Nat, j < n.toNatClampNeg → F.heap[H.size + 1 + j]? = some (vp_cell cy z) := fun j hj => by
    have := Jvm.Free.Multi.fill_inner (T.setVm vm₁) cA cy n.toNatClampNeg k.toNatClampNeg (defaultValue ty) n.toNatClampNeg j hj
    rw [hF, hTh, hz] at this
    exact this
  have hout : Jvm.Free.Multi.outerC cA n.toNatClampNeg H.size n.toNatClampNeg = vp_cell cA (n.toNatClampNeg, .inr (.inr (.inr (.inr (fun i => if i < n.toNatClampNeg then some (H.size + 1 + i) else none))))) := by
    rw [vp_cell_q]
    exact vr_outer cA n.toNatClampNeg H.size n.toNatClampNeg
  rw [hout] at f2
  have hlt : ∀ a, a ∈ L → a < H.size := fun a ha => by
    obtain ⟨k9, hk9⟩ := va_pl_get (X := X) (f := f) ha
    exact (hP k9 _ hk9).lt
  have hnl : ∀ i : Nat, i < n.toNatClampNeg → H.size + 1 + i ∉ L := fun i _ h => by
    have := hlt _ h
    omega
  have hnm : ∀ a, a ∈ (List.range n.toNatClampNeg).map (fun i => H.size + 1 + i) → a ∉ L := fun a ha h => by
    obtain ⟨i, -, rfl⟩ := List.mem_map.mp ha
    have := hlt _ h
    omega
  have hP0 : va_P D cl (X ++ va_pl L f) F.heap := hP.kept (fun k9 x hx => hold x.1 ((hP k9 x hx).lt))
  have hP1 : va_P D cl ((X ++ va_pl L f) ++ [(H.size, .inl (cA, n.toNatClampNeg, .inr (.inr (.inr (.inr (fun i => if i < n.toNatClampNeg then some (H.size + 1 + i) else none))))))]) F.heap := hP0.app (fun k9 x hx => by
    have h0 : k9 < 1 := (List.getElem?_eq_some_iff.mp hx).1
    rw [show k9 = 0 by omega] at hx
    cases hx
    exact f2)
  have hP2 : va_P D cl (((X ++ va_pl L f) ++ [(H.size, .inl (cA, n.toNatClampNeg, .inr (.inr (.inr (.inr (fun i => if i < n.toNatClampNeg then some (H.size + 1 + i) else none))))))]) ++ ((List.range n.toNatClampNeg).map (fun i => H.size + 1 + i)).map (fun a => (a, .inl (cy, z)))) F.heap := hP1.app (fun k9 x hx => by
    obtain ⟨a, ha, rfl⟩ := List.mem_map.mp (List.mem_of_getElem? hx)
    obtain ⟨i, hi, rfl⟩ := List.mem_map.mp ha
    exact hrow i (List.mem_range.mp hi))
  have hD2 : va_D A (((X ++ va_pl L f) ++ [(H.size, .inl (cA, n.toNatClampNeg, .inr (.inr (.inr (.inr (fun i => if i < n.toNatClampNeg then some (H.size + 1 + i) else none))))))]) ++ ((List.range n.toNatClampNeg).map (fun i => H.size + 1 + i)).map (fun a => (a, .inl (cy, z)))) := by
    have hD1 := hD.push (e := .inl (cA, n.toNatClampNeg, .inr (.inr (.inr (.inr (fun i => if i < n.toNatClampNeg then some (H.size + 1 + i) else none)))))) hP rfl (hA _ hS.1)
    generalize hW1 : (X ++ va_pl L f) ++ [(H.size, .inl (cA, n.toNatClampNeg, .inr (.inr (.inr (.inr (fun i => if i < n.toNatClampNeg then some (H.size + 1 + i) else none))))))] = W1 at hD1 hP1 ⊢
    have hle : ∀ (k9 : Nat) (x : Nat × va_E), W1[k9]? = some x → x.1 ≤ H.size := fun k9 x hx => by
      rw [← hW1] at hx
      by_cases hl : k9 < (X ++ va_pl L f).length
      · rw [List.getElem?_append_left hl] at hx
        exact Nat.le_of_lt ((hP k9 x hx).lt)
      · rw [List.getElem?_append_right (by omega)] at hx
        have h0 : k9 - (X ++ va_pl L f).length < 1 := (List.getElem?_eq_some_iff.mp hx).1
        rw [show k9 - (X ++ va_pl L f).length = 0 by omega] at hx
        cases hx
        exact Nat.le_refl _
    have hr : ∀ (k9 : Nat) (x : Nat × va_E), (((List.range n.toNatClampNeg).map (fun i => H.size + 1 + i)).map (fun a => ((a, .inl (cy, z)) : Nat × va_E)))[k9]? = some x → x.1 = H.size + 1 + k9 := fun k9 x hx => by
      rw [List.getElem?_map, List.getElem?_map] at hx
      by_cases h9 : k9 < n.toNatClampNeg
      · rw [List.getElem?_range h9] at hx
        cases hx
        rfl
      · have hn0 : (List.range n.toNatClampNeg)[k9]? = none := List.getElem?_eq_none (by rw [List.length_range]; omega)
        rw [hn0] at hx
        cases hx
    refine ⟨fun i j x y hi hj hxy => ?_, fun k9 x hx => ?_⟩
    · by_cases h1 : i < W1.length <;> by_cases h2 : j < W1.length
      · rw [List.getElem?_append_left h1] at hi
        rw [List.getElem?_append_left h2] at hj
        exact hD1.1 i j x y hi hj hxy
      · rw [List.getElem?_append_left h1] at hi
        rw [List.getElem?_append_right (by omega)] at hj
        have := hle _ _ hi
        have := hr _ _ hj
        omega
      · rw [List.getElem?_append_right (by omega)] at hi
        rw [List.getElem?_append_left h2] at hj
        have := hle _ _ hj
        have := hr _ _ hi
        omega
      · rw [List.getElem?_append_right (by omega)] at hi hj
        have := hr _ _ hi
        have := hr _ _ hj
        omega
    · by_cases h1 : k9 < W1.length
      · rw [List.getElem?_append_left h1] at hx
        exact hD1.2 k9 x hx
      · rw [List.getElem?_append_right (by omega)] at hx
        have := hr _ _ hx
        exact hA _ (by have := hS.1; omega)
  have hAr : ArrOfT s cA (.array ty) := fun N9 z9 => by
    obtain ⟨-, k9, hk9, cm9, hkk9⟩ := (hO 0 0 0).1
    exact ⟨(fun q hq => by cases hq), k9, hk9, cm9, hkk9⟩
  have hK2 : va_K D cl (tys ++ [(cA, .array ty)]) s := ⟨hK.1, fun k9 x hx => by
    by_cases hl : k9 < tys.length
    · rw [List.getElem?_append_left hl] at hx
      exact hK.2 k9 x hx
    · rw [List.getElem?_append_right (by omega)] at hx
      have h0 : k9 - tys.length < 1 := (List.getElem?_eq_some_iff.mp hx).1
      rw [show k9 - tys.length = 0 by omega] at hx
      cases hx
      exact ⟨hAr, fA⟩⟩
  obtain ⟨t, a1, b1⟩ := kk H.size (fun i => H.size + 1 + i) cA F.heap (fun i j _ _ h => by have h9 : H.size + 1 + i = H.size + 1 + j := h; omega) hnl hK2 (by rw [← vr_rows hnm]; exact vr_lay hP2) (by rw [← vr_rows hnm]; exact vr_layD hD2) ⟨by rw [f1]; have := hS.1; omega, fun x h1 h2 => (hold x (Nat.lt_of_lt_of_le h1 hS.1)).trans (hS.2.1 x h1 h2), hS.2.2⟩ F rfl X'
  refine ⟨t, step t ?_, b1⟩
  have e : T.heap.size = H.size := by rw [hT]
  rw [e]
  exact a1
end VGM
/-! ===== END ===== -/

/-! ===== BEGIN exceptions that leave a method, and their catching by the caller (launches without stack traces) ===== -/
section VXA
/-! The laws vx_back, vx_callV, vx_callS, vx_callSW, vx_throw0, vx_throwS follow proofs of the library, with one case more: JvmDerived/Free/Laws.lean (Back.of_free), Shelf42/LK1.lean (callV, callS), Shelf/KitTraced.lean (throwNew0V, throwNewS). -/
/-- where a method has thrown q: the class by its name, the cell, what was written, the world -/
def vx_T (XC : String → State → State → Prop) (st : State) (q : Addr) (t : State) (mc ms : Nat) (free : Addr → Prop) : Prop :=
  ∃ (E : String) (ce : Cell) (L : List Loc), XC E st t ∧ t.heap[q]? = some ce ∧ ce.vm = .none ∧ st.vm.findClass E = some ce.cls ∧ st.WarmedH t.vm ∧ st.sameButNew ({ t with vm := st.vm } : State) L mc ms ∧ ∀ z ∈ L, free z.base
def vx_Q (Qc : Array Value → State → Outcome → State → Prop) (XC : String → State → State → Prop) (mc ms : Nat) (free : Addr → Prop) : Array Value → State → Outcome → State → Prop := fun a st o t =>
  (Qc a st o t ∧ ∃ L, FrameEnd st o t L mc ms ∧ ∀ q ∈ L, free q.base) ∨ ∃ q, o = .threw q ∧ vx_T XC st q t mc ms free
/-- a callee that returns or throws -/
def vx_Met (l : Launch) (y : MethodName) (ws : List Cond) (rm : Room) (Pc : Array Value → State → Prop) (Qc : Array Value → State → Outcome → State → Prop) (XC : String → State → State → Prop) (mc ms : Nat) (free : Addr → Prop) : Prop :=
  MetFree l y (headSpec ws rm) Pc (fun _ _ _ _ _ => True) (vx_Q Qc XC mc ms free)
def vx_Post (XC : String → State → State → Prop) (mc ms : Nat) (free : Addr → Prop) : Pt → Array Value → Addr → Pt → Prop := fun A a q B =>
  ∃ (g : JFrame) (mk : MethodId) (t : State) (L : List Loc) (E : String) (ce : Cell), B.U.heap = t.heap ∧ B.U.vm = t.vm ∧ XC E (A.U.calling g mk a) t ∧ t.heap[q]? = some ce ∧ ce.vm = .none ∧ A.U.vm.findClass E = some ce.cls ∧ B.locs = A.locs ++ L ∧ (∀ z ∈ L, free z.base) ∧ B.cells = A.cells + mc ∧ B.slots = A.slots + ms
def vx_Back (l : Launch) (R : Room) (p : Program) (e : Env) (below : List Frame) (s : State) (sargs : Array Value) (y : MethodName) (len W9 : Nat)
    (Pre : Pt → Array Value → Prop) (Post : Pt → Array Value → Option Value → Pt → Prop) (PostX : Pt → Array Value → Addr → Pt → Prop) : Prop :=
  ∀ (m : MethodId) (meth : Method) (c : Code) (A : Pt) (g : JFrame) (ig : Instr) (mk : MethodId) (a : Array Value),
    Stand p l e R s m sargs below meth c A.U A.locs A.cells A.slots → g.method = m → g.locals.size = c.maxLocals → decode c.code g.pc = .ok (ig, len) →
    2 * g.monitorRoom + (g.stack.map fun v => v.category).sum ≤ W9 → A.U.methodNamed? y = some mk → Pre A a →
    (∃ (v : Option Value) (B : Pt), Stand p l e R s m sargs below meth c B.U B.locs B.cells B.slots ∧ Post A a v B ∧
      Steps p.tables e below (doInvoke e (A.U.setTop g) [] mk a).1 (B.U.setTop { g with pc := g.pc + len, stack := v.toList ++ g.stack })) ∨
    (∃ (q : Addr) (B : Pt), Stand p l e R s m sargs below meth c B.U B.locs B.cells B.slots ∧ PostX A a q B ∧
      Steps p.tables e below (doInvoke e (A.U.setTop g) [] mk a).1 ((B.U.setTop g).pushFrame (.throwing q)))
section Payer
variable {l : Launch} {R : Room} {p : Program} {e : Env} {below : List Frame} {s : State} {sargs : Array Value} {y : MethodName} {len W9 : Nat}
theorem vx_back {ws : List Cond} {rm : Room} {Pc : Array Value → State → Prop} {Qc : Array Value → State → Outcome → State → Prop} {XC : String → State → State → Prop} {mc ms : Nat} {free : Addr → Prop} {bytes : ByteArray} {maxL : Nat} {ret : Option FieldType}
    (hM : vx_Met l y ws rm Pc Qc XC mc ms free) (hblind : FrameBlind Pc) (hrc : rm.cells = mc) (hrs : rm.slots = ms)
    (hframes : rm.frames + 1 ≤ R.frames) (hlocals : W9 + (maxL + 11) + rm.locals ≤ R.locals)
    (hws : ∀ w ∈ ws, ∀ a' U, s.WarmedH U.vm → w.before a' U = true) (hcode : Cond.code y bytes maxL ret ∈ ws) (hinit : ∀ a' U, s.WarmedH U.vm → (Cond.initialized y.cls).before a' U = true) :
    vx_Back l R p e below s sargs y len W9 (PreOf R mc ms Pc) (PostOf Qc mc ms free) (vx_Post XC mc ms free) := by
  intro m meth c A g ig mk a X hg hsize hdg hW hn hp
  have h1 : (headSpec ws rm).pre.before a A.U = true := atoms_intro fun w hw => hws w hw _ _ X.warmed
  have h2 : (Cond.code y bytes maxL ret).before a A.U = true := hws _ hcode _ _ X.warmed
  have h3 : (Cond.initialized y.cls).before a A.U = true := hinit _ _ X.warmed
  have h4 : A.cells + (headSpec ws rm).room.cells ≤ R.cells := by rw [show (headSpec ws rm).room.cells = mc from hrc]; exact hp.1
  have h5 : A.slots + (headSpec ws rm).room.slots ≤ R.slots := by rw [show (headSpec ws rm).room.slots = ms from hrs]; exact hp.2.1
  have hPc : Pc a (A.U.calling g mk a) := hblind _ _ _ _ hp.2.2
  obtain ⟨U, Ls, c0, s0⟩ := A
  dsimp only [Pt.U, Pt.locs, Pt.cells, Pt.slots] at h1 h2 h3 h4 h5 X hn hPc ⊢
  obtain ⟨methY, cY, hmY, hcY, -, hlY, -, -, -, -⟩ := Cond.code_spec hn h2
  obtain ⟨kY, hkY, -⟩ := className_of_methodNamed hn
  have hinitY : kY.init = .initialized := Cond.initialized_spec (findClass_of_methodNamed hn) hkY h3
  have h : At U g.method c below := by rw [hg]; exact X.here
  have hlocals9 : W9 + (maxL + 11) + (headSpec ws rm).room.locals ≤ R.locals := hlocals
  have happ : (headSpec ws rm).appliesLoose y e.platform (U.calling g mk a) = true :=
    Spec.appliesLoose_calling (g := g) h hdg hn hkY hinitY
      (X.room_calling (g := g) (R' := (headSpec ws rm).room) hsize hmY hcY hframes (by rw [hlY]; omega) h4 h5) h1
  obtain ⟨mid, hmid⟩ := h.above
  have hfr : (U.setTop g).frames = (.java g :: mid) ++ below := by rw [State.frames_setTop' g h.top, hmid]; rfl
  obtain ⟨o, s₂, hsteps, -, hend, hq⟩ := Steps.callFree hM p X.admits X.cas X.clock (acts := []) hfr happ hPc trivial
  have hq' : vx_Q Qc XC mc ms free a (U.calling g mk a) o s₂ := hq
  rw [State.frames_setTop' g h.top] at hend
  obtain ⟨g₀, hg0⟩ := Option.isSome_iff_exists.mp h.top
  obtain ⟨r, hr⟩ := State.topJava?_eq_some.mp hg0
  have hr' : (({ U with heap := s₂.heap, slotsUsed := s₂.slotsUsed } : State).setVm s₂.vm).frames = .java g₀ :: r := hr
  rcases hq' with ⟨hqc, L, hfe, hL⟩ | ⟨q, rfl, E, ce, L, hx, hce, hcv, hcl, hW₂, hsm, hL⟩
  · obtain ⟨⟨v, rfl⟩, hW₂, e2, q2, q3, q4, q5, q6⟩ := id hfe
    have e3 : s₂ = ({ (U.calling g mk a).setFrames s₂.frames with heap := s₂.heap, slotsUsed := s₂.slotsUsed } : State).setVm s₂.vm := by
      have : s₂ = ({ s₂ with vm := (U.calling g mk a).vm } : State).setVm s₂.vm := rfl
      rw [e2] at this
      exact this
    obtain ⟨c₂, i₂, len₂, hc₂, hd₂, hf₂⟩ := hend
    have hW' : U.WarmedH s₂.vm := hW₂
    have hcc : c₂ = c := by
      have h1 : s₂.code? g.method = U.code? g.method := by
        rw [State.code?_eq, State.code?_eq, hW'.alike.method?]
      exact Option.some.inj (hc₂.symm.trans (h1.trans h.code))
    subst hcc
    have hlen : len₂ = len := by rw [hdg] at hd₂; cases hd₂; rfl
    subst hlen
    have hs₂ : s₂ = (({ U with heap := s₂.heap, slotsUsed := s₂.slotsUsed } : State).setVm s₂.vm).setTop { g with pc := g.pc + len₂, stack := v.toList ++ g.stack } := by
      refine e3.trans ?_
      rw [hf₂, State.calling_eq h.top, State.setFrames_setFrames, State.setTop_of_frames _ hr', hr]
      rfl
    have hsame : U.sameButNew ({ U with heap := s₂.heap, slotsUsed := s₂.slotsUsed } : State) L mc ms := by
      refine ⟨?_, q2, q3, q4, q5, q6⟩
      obtain ⟨t, ht, -⟩ := State.frames_cons hr
      show ({ U with heap := s₂.heap, slotsUsed := s₂.slotsUsed } : State) = { U.setFrames U.frames with heap := s₂.heap, slotsUsed := s₂.slotsUsed }
      rw [State.setFrames_self ht]
    subst hg
    refine Or.inl ⟨v, ⟨(({ U with heap := s₂.heap, slotsUsed := s₂.slotsUsed } : State).setVm s₂.vm), Ls ++ L, c0 + mc, s0 + ms⟩,
      ⟨X.admits, X.cas, X.clock, X.frames, X.room, X.hears, X.method, X.code, (X.here.setHeapUsed s₂.heap s₂.slotsUsed).setVm hW'.alike, X.tail, State.WarmedH.trans X.warmed hW', X.limits, X.bytes, X.same.trans (hsame.setVm s.vm)⟩,
      ⟨g, mk, s₂, L, rfl, rfl, hqc, rfl, hL, rfl, rfl⟩, ?_⟩
    show Steps p.tables e below _ ((({ U with heap := s₂.heap, slotsUsed := s₂.slotsUsed } : State).setVm s₂.vm).setTop { g with pc := g.pc + len₂, stack := v.toList ++ g.stack })
    rw [← hs₂]
    exact hsteps
  · obtain ⟨e2, q2, q3, q4, q5, q6⟩ := id hsm
    have e3 : s₂ = ({ (U.calling g mk a).setFrames s₂.frames with heap := s₂.heap, slotsUsed := s₂.slotsUsed } : State).setVm s₂.vm := by
      have : s₂ = ({ s₂ with vm := (U.calling g mk a).vm } : State).setVm s₂.vm := rfl
      rw [e2] at this
      exact this
    have hf₂ : s₂.frames = .throwing q :: .java g :: U.frames.tail := hend
    have hW' : U.WarmedH s₂.vm := hW₂
    have hs₂ : s₂ = ((({ U with heap := s₂.heap, slotsUsed := s₂.slotsUsed } : State).setVm s₂.vm).setTop g).pushFrame (.throwing q) := by
      refine e3.trans ?_
      rw [hf₂, State.calling_eq h.top, State.setFrames_setFrames, State.pushFrame, State.frames_setTop _ hr', State.setTop_of_frames _ hr', State.setFrames_setFrames, hr]
      rfl
    have hsame : U.sameButNew ({ U with heap := s₂.heap, slotsUsed := s₂.slotsUsed } : State) L mc ms := by
      refine ⟨?_, q2, q3, q4, q5, q6⟩
      obtain ⟨t, ht, -⟩ := State.frames_cons hr
      show ({ U with heap := s₂.heap, slotsUsed := s₂.slotsUsed } : State) = { U.setFrames U.frames with heap := s₂.heap, slotsUsed := s₂.slotsUsed }
      rw [State.setFrames_self ht]
    subst hg
    refine Or.inr ⟨q, ⟨(({ U with heap := s₂.heap, slotsUsed := s₂.slotsUsed } : State).setVm s₂.vm), Ls ++ L, c0 + mc, s0 + ms⟩,
      ⟨X.admits, X.cas, X.clock, X.frames, X.room, X.hears, X.method, X.code, (X.here.setHeapUsed s₂.heap s₂.slotsUsed).setVm hW'.alike, X.tail, State.WarmedH.trans X.warmed hW', X.limits, X.bytes, X.same.trans (hsame.setVm s.vm)⟩,
      ⟨g, mk, s₂, L, E, ce, rfl, rfl, hx, hce, hcv, hcl, rfl, hL, rfl, rfl⟩, ?_⟩
    show Steps p.tables e below _ (((({ U with heap := s₂.heap, slotsUsed := s₂.slotsUsed } : State).setVm s₂.vm).setTop g).pushFrame (.throwing q))
    rw [← hs₂]
    exact hsteps
end Payer
section Calls
variable {p : Program} {l : Launch} {e : Env} {R : Room} {s : State} {m : MethodId} {args : Array Value} {below : List Frame} {meth : Method} {c : Code} {T : State} {locs : List Loc} {cells slots : Nat}
theorem vx_callV (X : Stand p l e R s m args below meth c T locs cells slots) (hexec : p.tables.exec = Jvm.exec) {own C : String} {index : Nat} {y : MethodName} {bytes : ByteArray} {maxL : Nat} {ret : Option FieldType}
    (hown : s.vm.findClass own = some m.cls) (hlink : (Cond.methodLink own index y).before args s = true) (hinst : (Cond.instanceMethod y).before args s = true) (hsel : (Cond.selects C y y).before args s = true)
    (hcode : (Cond.code y bytes maxL ret).before args s = true) (hy : y.cls ≠ "java/lang/invoke/MethodHandle" ∧ y.cls ≠ "java/lang/invoke/VarHandle")
    {W9 : Nat} {Pre : Pt → Array Value → Prop} {Post : Pt → Array Value → Option Value → Pt → Prop} {PostX : Pt → Array Value → Addr → Pt → Prop} (hK : vx_Back l R p e below s args y 3 W9 Pre Post PostX)
    {b : Addr} {cellB : Cell} (hcell : T.heap[b]? = some cellB) (hobj : cellB.vm.isStatics = false) (hcls : s.vm.findClass C = some cellB.cls)
    {g : JFrame} (hg : g.method = m) (hsize : g.locals.size = c.maxLocals) {argsL rest : List Value} (hlen : ∀ sig, parseMethodDescriptor y.desc = some sig → argsL.length = sig.parameters.length)
    (hstack : g.stack = argsL.reverse ++ .ref b :: rest) (hW : 2 * g.monitorRoom + (rest.map fun v => v.category).sum ≤ W9) (hdg : decode c.code g.pc = .ok (.invokevirtual index, 3))
    (hpre : ∀ vm₁, s.WarmedH vm₁ → Pre ⟨T.setVm vm₁, locs, cells, slots⟩ (Value.ref b :: argsL).toArray) :
    (∃ (v : Option Value) (vm₁ : Vm) (B : Pt), s.WarmedH vm₁ ∧ Stand p l e R s m args below meth c B.U B.locs B.cells B.slots ∧ Post ⟨T.setVm vm₁, locs, cells, slots⟩ (Value.ref b :: argsL).toArray v B ∧
      ∀ target, Steps p.tables e below (B.U.setTop { g with pc := g.pc + 3, stack := v.toList ++ rest }) target → Steps p.tables e below (T.setTop g) target) ∨
    (∃ (q : Addr) (vm₁ : Vm) (B : Pt), s.WarmedH vm₁ ∧ Stand p l e R s m args below meth c B.U B.locs B.cells B.slots ∧ PostX ⟨T.setVm vm₁, locs, cells, slots⟩ (Value.ref b :: argsL).toArray q B ∧
      Steps p.tables e below (T.setTop g) ((B.U.setTop { g with stack := rest }).pushFrame (.throwing q))) := by
  obtain ⟨mk, methM, hnamed, hmethM, hstM, habM⟩ := Cond.instanceMethod_spec hinst
  obtain ⟨methM', cM, hmethM', -, -, -, -, -, -, hsigM⟩ := Cond.code_spec hnamed hcode
  cases hmethM.symm.trans hmethM'
  obtain ⟨c2, r2, m2, q1, q2, q3, q4, kP, hkP, hkPi⟩ := Cond.selects_spec hsel
  cases hcls.symm.trans q1
  cases (State.methodFound?_of_named hnamed hy).symm.trans q2
  cases hnamed.symm.trans q3
  have hselP : selectMethod e.platform s.vm cellB.cls mk = .method mk := by rw [Launch.admits_selectMethod X.admits]; exact q4
  obtain ⟨vm₁, X₁, hstep₁⟩ := X.invokevirtual hexec hown hlink hnamed hmethM hstM hkP hkPi hy (a := b) (cell := cellB) hcell
    (fun z h => by rw [h] at hobj; cases hobj) hselP hmethM habM hkP hkPi (g := g) hg (argsL := argsL) (rest := rest) (hlen _ hsigM) hstack hdg
  rcases hK m meth c ⟨T.setVm vm₁, locs, cells, slots⟩ { g with stack := rest } (.invokevirtual index) mk (Value.ref b :: argsL).toArray X₁ hg hsize hdg hW (X₁.named hnamed) (hpre vm₁ X₁.warmed) with ⟨v, B, X', hpost, hsteps⟩ | ⟨q, B, X', hpost, hsteps⟩
  · exact Or.inl ⟨v, vm₁, B, X₁.warmed, X', hpost, fun target h => hstep₁ _ fun acts => by rw [doInvoke_state]; exact hsteps.trans h⟩
  · exact Or.inr ⟨q, vm₁, B, X₁.warmed, X', hpost, hstep₁ _ fun acts => by rw [doInvoke_state]; exact hsteps⟩
theorem vx_callS (X : Stand p l e R s m args below meth c T locs cells slots) (hexec : p.tables.exec = Jvm.exec) {own : String} {index : Nat} {y : MethodName} {bytes : ByteArray} {maxL : Nat} {ret : Option FieldType}
    (hown : s.vm.findClass own = some m.cls) (hlink : (Cond.methodLink own index y).before args s = true) (hstat : (Cond.static y).before args s = true) (hinit : (Cond.initialized y.cls).before args s = true)
    (hcode : (Cond.code y bytes maxL ret).before args s = true) (hy : y.cls ≠ "java/lang/invoke/MethodHandle" ∧ y.cls ≠ "java/lang/invoke/VarHandle")
    {W9 : Nat} {Pre : Pt → Array Value → Prop} {Post : Pt → Array Value → Option Value → Pt → Prop} {PostX : Pt → Array Value → Addr → Pt → Prop} (hK : vx_Back l R p e below s args y 3 W9 Pre Post PostX)
    {g : JFrame} (hg : g.method = m) (hsize : g.locals.size = c.maxLocals) {argsL rest : List Value} (hlen : ∀ sig, parseMethodDescriptor y.desc = some sig → argsL.length = sig.parameters.length)
    (hstack : g.stack = argsL.reverse ++ rest) (hW : 2 * g.monitorRoom + (rest.map fun v => v.category).sum ≤ W9) (hdg : decode c.code g.pc = .ok (.invokestatic index, 3))
    (hpre : ∀ vm₁, s.WarmedH vm₁ → Pre ⟨T.setVm vm₁, locs, cells, slots⟩ argsL.toArray) :
    (∃ (v : Option Value) (vm₁ : Vm) (B : Pt), s.WarmedH vm₁ ∧ Stand p l e R s m args below meth c B.U B.locs B.cells B.slots ∧ Post ⟨T.setVm vm₁, locs, cells, slots⟩ argsL.toArray v B ∧
      ∀ target, Steps p.tables e below (B.U.setTop { g with pc := g.pc + 3, stack := v.toList ++ rest }) target → Steps p.tables e below (T.setTop g) target) ∨
    (∃ (q : Addr) (vm₁ : Vm) (B : Pt), s.WarmedH vm₁ ∧ Stand p l e R s m args below meth c B.U B.locs B.cells B.slots ∧ PostX ⟨T.setVm vm₁, locs, cells, slots⟩ argsL.toArray q B ∧
      Steps p.tables e below (T.setTop g) ((B.U.setTop { g with stack := rest }).pushFrame (.throwing q))) := by
  obtain ⟨mk, hnamed⟩ := Cond.code_named hcode
  obtain ⟨methM, cM, hmethM, -, -, -, -, -, -, hsigM⟩ := Cond.code_spec hnamed hcode
  have hstatic : methM.isStatic = true := Cond.static_spec hnamed hmethM hstat
  obtain ⟨kP, hkP, -⟩ := className_of_methodNamed hnamed
  have hinitP : kP.init = .initialized := Cond.initialized_spec (findClass_of_methodNamed hnamed) hkP hinit
  obtain ⟨vm₁, X₁, hstep₁⟩ := X.invokestatic hexec hown hlink hnamed hmethM hstatic hkP hinitP hy (g := g) hg (argsL := argsL) (rest := rest) (hlen _ hsigM) hstack hdg
  rcases hK m meth c ⟨T.setVm vm₁, locs, cells, slots⟩ { g with stack := rest } (.invokestatic index) mk argsL.toArray X₁ hg hsize hdg hW (X₁.named hnamed) (hpre vm₁ X₁.warmed) with ⟨v, B, X', hpost, hsteps⟩ | ⟨q, B, X', hpost, hsteps⟩
  · exact Or.inl ⟨v, vm₁, B, X₁.warmed, X', hpost, fun target h => hstep₁ _ fun acts => by rw [doInvoke_state]; exact hsteps.trans h⟩
  · exact Or.inr ⟨q, vm₁, B, X₁.warmed, X', hpost, hstep₁ _ fun acts => by rw [doInvoke_state]; exact hsteps⟩
end Calls
theorem vx_cls {s : State} {T : State} {vm₁ : Vm} {E : String} {k : ClassId} (hW : s.WarmedH vm₁) (h : (T.setVm vm₁).vm.findClass E = some k) : s.vm.findClass E = some k := by
  have h1 : vm₁.findClass E = some k := h
  rw [hW.alike.findClass] at h1
  exact h1
/-- the method's frame g, with q thrown over it -/
def vx_W (p : Program) (l : Launch) (e : Env) (R : Room) (s : State) (m : MethodId) (args : Array Value) (below : List Frame) (meth : Method) (c : Code) (H : Heap) (locs : List Loc) (cells slots : Nat) (Q : State → Prop) (g : JFrame) (q : Addr) : Prop :=
  ∀ T : State, T.heap = H → Stand p l e R s m args below meth c T locs cells slots → ∃ t, Steps p.tables e below ((T.setTop g).pushFrame (.throwing q)) t ∧ Q t
def vx_Run (p : Program) (l : Launch) (e : Env) (R : Room) (s : State) (m : MethodId) (args : Array Value) (below : List Frame) (meth : Method) (c : Code) (H : Heap) (locs : List Loc) (cells slots mc ms : Nat) (g : JFrame) (rest : List Value) (Qa : State → Outcome → State → Prop) (XC : String → State → State → Prop) (free : Addr → Prop) : Prop :=
  ∀ T : State, T.heap = H → Stand p l e R s m args below meth c T locs cells slots →
    (∃ (v : Option Value) (st₀ t T' : State) (L : List Loc), st₀.heap = H ∧ Stand p l e R s m args below meth c T' (locs ++ L) (cells + mc) (slots + ms) ∧ (∀ q ∈ L, free q.base) ∧ T'.heap = t.heap ∧ T'.vm = t.vm ∧ Qa st₀ (.returned v) t ∧
      Goes p e below T g T' { g with pc := g.pc + 3, stack := v.toList ++ rest }) ∨
    (∃ (q : Addr) (st₀ t T' : State) (L : List Loc) (E : String) (ce : Cell), st₀.heap = H ∧ Stand p l e R s m args below meth c T' (locs ++ L) (cells + mc) (slots + ms) ∧ (∀ z ∈ L, free z.base) ∧ T'.heap = t.heap ∧ T'.vm = t.vm ∧ XC E st₀ t ∧ t.heap[q]? = some ce ∧ ce.vm = .none ∧ s.vm.findClass E = some ce.cls ∧
      Steps p.tables e below (T.setTop g) ((T'.setTop { g with stack := rest }).pushFrame (.throwing q)))
def vx_X {S : Type} (px : S → Prop) (B : String → S → State → Prop) (A : Nat → Prop) : String → State → State → Prop := fun E st t => ∃ u : S, px u ∧ B E u t ∧ va_F A st t
section Runs
variable {p : Program} {l : Launch} {e : Env} {R : Room} {s : State} {m : MethodId} {args : Array Value} {below : List Frame} {meth : Method} {c : Code} {H : Heap} {locs : List Loc} {cells slots : Nat}
variable {y : MethodName} {bytes cc : ByteArray} {maxL nL mc ms n index : Nat} {ret : Option FieldType} {ws : List Cond} {rm : Room} {Pc : Array Value → State → Prop} {Qc : Array Value → State → Outcome → State → Prop} {XC : String → State → State → Prop} {free : Addr → Prop} {Ts : List Cond} {own C : String} {b : Addr} {As rest : List Value} {g : JFrame}
theorem vx_callBack (cb : CallB R s args own index y bytes maxL ret ws rm mc ms n) (hM : vx_Met l y ws rm Pc Qc XC mc ms free) (hbl : FrameBlind Pc) : vx_Back l R p e below s args y 3 8 (PreOf R mc ms Pc) (PostOf Qc mc ms free) (vx_Post XC mc ms free) := by
  obtain ⟨hrc, hrs, hfr, hlo, hws, hcw, -, hini, -⟩ := cb
  exact vx_back (bytes := bytes) (maxL := maxL) (ret := ret) hM hbl hrc hrs hfr hlo hws hcw (fun a' U hW => word_at hW (Or.inl (by first | rfl | simp [Cond.onTables, Cond.keeps, Cond.steady])) hini)
theorem vx_runV (S : CallFix p m c cc nL s args Ts own) (hM : vx_Met l y ws rm Pc Qc XC mc ms free) (cw : CallW R s args own C index y bytes maxL ret ws rm mc ms n) (hp : PreV s H C b Pc As)
    (hg : g.method = m) (hn : As.length = n) (hsize : g.locals.size = nL) (hstack : g.stack = As.reverse ++ .ref b :: rest) (hW : 2 * g.monitorRoom + (rest.map fun v => v.category).sum ≤ 8) (hdg : decode cc g.pc = .ok (.invokevirtual index, 3)) (hf : cells + mc ≤ R.cells ∧ slots + ms ≤ R.slots) :
    vx_Run p l e R s m args below meth c H locs cells slots mc ms g rest (Qc (Value.ref b :: As).toArray) XC free := by
  have hK : vx_Back l R p e below s args y 3 8 (PreOf R mc ms Pc) (PostOf Qc mc ms free) (vx_Post XC mc ms free) := vx_callBack cw.1 hM hp.1
  obtain ⟨⟨-, -, -, -, -, -, hcode, -, hy, hlen, hl⟩, hin, hse⟩ := cw
  obtain ⟨hx, hb, hml, ho, -⟩ := S
  obtain ⟨-, ⟨cellB, hcB, hoB, hclB⟩, hPc⟩ := hp
  intro T hT X
  rcases vx_callV X hx (C := C) (bytes := bytes) (maxL := maxL) (ret := ret) ho hl hin hse hcode hy hK (by rw [hT]; exact hcB) hoB hclB hg (hsize.trans hml.symm) (argsL := As) (rest := rest) (fun sig h => hn.trans (hlen sig h)) hstack hW (by rw [hb]; exact hdg)
    (fun vm₁ hW₁ => ⟨hf.1, hf.2, hPc (T.setVm vm₁) hT hW₁⟩) with ⟨v, vm₁, ⟨U', l2, c2, s2⟩, hW₁, X', ⟨g', mk, t, L, e1, e2, hq, h1, hL, h2, h3⟩, st⟩ | ⟨q, vm₁, ⟨U', l2, c2, s2⟩, hW₁, X', ⟨g', mk, t, L, E, ce, e1, e2, hq, hce, hcv, hcl, h1, hL, h2, h3⟩, st⟩
  · dsimp only [Pt.U, Pt.locs, Pt.cells, Pt.slots] at X' e1 e2 h1 h2 h3 st
    subst h1; subst h2; subst h3
    exact Or.inl ⟨v, (T.setVm vm₁).calling g' mk (Value.ref b :: As).toArray, t, U', L, hT, X', hL, e1, e2, hq, st⟩
  · dsimp only [Pt.U, Pt.locs, Pt.cells, Pt.slots] at X' e1 e2 h1 h2 h3 st hcl
    subst h1; subst h2; subst h3
    exact Or.inr ⟨q, (T.setVm vm₁).calling g' mk (Value.ref b :: As).toArray, t, U', L, E, ce, hT, X', hL, e1, e2, hq, hce, hcv, vx_cls hW₁ hcl, st⟩
theorem vx_runS (S : CallFix p m c cc nL s args Ts own) (hM : vx_Met l y ws rm Pc Qc XC mc ms free) (cw : CallB R s args own index y bytes maxL ret ws rm mc ms n ∧ (Cond.static y).before args s = true) (hp : PreS s H Pc As)
    (hg : g.method = m) (hn : As.length = n) (hsize : g.locals.size = nL) (hstack : g.stack = As.reverse ++ rest) (hW : 2 * g.monitorRoom + (rest.map fun v => v.category).sum ≤ 8) (hdg : decode cc g.pc = .ok (.invokestatic index, 3)) (hf : cells + mc ≤ R.cells ∧ slots + ms ≤ R.slots) :
    vx_Run p l e R s m args below meth c H locs cells slots mc ms g rest (Qc As.toArray) XC free := by
  have hK : vx_Back l R p e below s args y 3 8 (PreOf R mc ms Pc) (PostOf Qc mc ms free) (vx_Post XC mc ms free) := vx_callBack cw.1 hM hp.1
  obtain ⟨⟨-, -, -, -, -, -, hcode, hini, hy, hlen, hl⟩, hstt⟩ := cw
  obtain ⟨hx, hb, hml, ho, -⟩ := S
  intro T hT X
  rcases vx_callS X hx (bytes := bytes) (maxL := maxL) (ret := ret) ho hl hstt hini hcode hy hK hg (hsize.trans hml.symm) (argsL := As) (rest := rest) (fun sig h => hn.trans (hlen sig h)) hstack hW (by rw [hb]; exact hdg)
    (fun vm₁ hW₁ => ⟨hf.1, hf.2, hp.2 (T.setVm vm₁) hT hW₁⟩) with ⟨v, vm₁, ⟨U', l2, c2, s2⟩, hW₁, X', ⟨g', mk, t, L, e1, e2, hq, h1, hL, h2, h3⟩, st⟩ | ⟨q, vm₁, ⟨U', l2, c2, s2⟩, hW₁, X', ⟨g', mk, t, L, E, ce, e1, e2, hq, hce, hcv, hcl, h1, hL, h2, h3⟩, st⟩
  · dsimp only [Pt.U, Pt.locs, Pt.cells, Pt.slots] at X' e1 e2 h1 h2 h3 st
    subst h1; subst h2; subst h3
    exact Or.inl ⟨v, (T.setVm vm₁).calling g' mk As.toArray, t, U', L, hT, X', hL, e1, e2, hq, st⟩
  · dsimp only [Pt.U, Pt.locs, Pt.cells, Pt.slots] at X' e1 e2 h1 h2 h3 st hcl
    subst h1; subst h2; subst h3
    exact Or.inr ⟨q, (T.setVm vm₁).calling g' mk As.toArray, t, U', L, E, ce, hT, X', hL, e1, e2, hq, hce, hcv, vx_cls hW₁ hcl, st⟩
end Runs
section Rows
variable {p : Program} {l : Launch} {e : Env} {R : Room} {s : State} {m : MethodId} {args : Array Value} {below : List Frame} {meth : Method} {c : Code} {H : Heap} {locs : List Loc} {cells slots : Nat} {Q : State → Prop}
variable {mc ms : Nat} {free : Addr → Prop} {A0 A1 : Nat → Prop} {H0 : Heap} {a : Array Value} {pc : Nat} {ls : Array Slot} {st0 rest : List Value}
theorem vx_keep {st₀ t T' : State} {L : List Loc} (h0 : st₀.heap = H) (e1 : T'.heap = t.heap) (hS : va_S A0 H0 H locs) (hA : ∀ q, q < H.size → A1 q → A0 q) (hf : ∀ q, free q → A0 q) (hL : ∀ q ∈ L, free q.base) (hF : va_F A1 st₀ t) :
    H.size ≤ T'.heap.size ∧ (∀ q : Nat, q < H.size → ¬ A1 q → T'.heap[q]? = H[q]?) ∧ va_S A0 H0 T'.heap (locs ++ L) := by
  obtain ⟨hz, hk⟩ := hF
  rw [h0] at hz hk
  exact ⟨by rw [e1]; exact hz, fun q h1 h2 => by rw [e1]; exact hk q h1 h2,
    ⟨Nat.le_trans hS.1 (by rw [e1]; exact hz), fun q h1 h2 => by rw [e1, hk q (Nat.lt_of_lt_of_le h1 hS.1) (fun z => h2 (hA q (Nat.lt_of_lt_of_le h1 hS.1) z))]; exact hS.2.1 q h1 h2, fun q hq => by
      rcases List.mem_append.mp hq with h | h
      · exact hS.2.2 q h
      · exact hf _ (hL q h)⟩⟩
theorem vx_calli {S SX : Type} {post : Int32 → S → Prop} {px : SX → Prop} {B : S → State → Prop} {BX : String → SX → State → Prop} {AX : Nat → Prop} (hr : vx_Run p l e R s m args below meth c H locs cells slots mc ms (F0 m pc ls st0) rest (va_Qi post B A1 a) (vx_X px BX AX) free) (hS : va_S A0 H0 H locs) (hA : ∀ q, q < H.size → A1 q → A0 q) (hf : ∀ q, free q → A0 q) (hAX : ∀ q, q < H.size → AX q → A0 q)
    (kx : ∀ (E : String) (ce : Cell) (q9 : Addr) (u : SX) (t : State) (H1 : Heap) (locs1 : List Loc), t.heap = H1 → s.vm.Alike t.vm → px u → BX E u t → H.size ≤ H1.size → (∀ q : Nat, q < H.size → ¬ AX q → H1[q]? = H[q]?) → va_S A0 H0 H1 locs1 → H1[q9]? = some ce → ce.vm = .none → s.vm.findClass E = some ce.cls → vx_W p l e R s m args below meth c H1 locs1 (cells + mc) (slots + ms) Q (F0 m pc ls rest) q9)
    (kk : ∀ (r : Int32) (u : S) (t : State) (H1 : Heap) (locs1 : List Loc), t.heap = H1 → s.vm.Alike t.vm → post r u → B u t → H.size ≤ H1.size → (∀ q : Nat, q < H.size → ¬ A1 q → H1[q]? = H[q]?) → va_S A0 H0 H1 locs1 → W p l e R s m args below meth c H1 locs1 (cells + mc) (slots + ms) Q (F0 m (pc + 3) ls (.int r :: rest))) : W p l e R s m args below meth c H locs cells slots Q (F0 m pc ls st0) := by
  intro T hT X
  rcases hr T hT X with ⟨v, st₀, t, T', L, h0, X', hL, e1, e2, ⟨⟨r, u, hv, hp, hb⟩, hF⟩, st⟩ | ⟨q, st₀, t, T', L, E, ce, h0, X', hL, e1, e2, ⟨u, hp, hb, hF⟩, hce, hcv, hcl, st⟩
  · cases hv
    obtain ⟨k1, k2, k3⟩ := vx_keep h0 e1 hS hA hf hL hF
    obtain ⟨t2, a1, b1⟩ := kk r u t T'.heap (locs ++ L) e1.symm (by rw [← e2]; exact X'.warmed.alike) hp hb k1 k2 k3 T' rfl X'
    exact ⟨t2, st t2 a1, b1⟩
  · obtain ⟨k1, k2, k3⟩ := vx_keep h0 e1 hS hAX hf hL hF
    obtain ⟨t2, a1, b1⟩ := kx E ce q u t T'.heap (locs ++ L) e1.symm (by rw [← e2]; exact X'.warmed.alike) hp hb k1 k2 k3 (by rw [e1]; exact hce) hcv hcl T' rfl X'
    exact ⟨t2, st.trans a1, b1⟩
theorem vx_calll {S SX : Type} {post : Int64 → S → Prop} {px : SX → Prop} {B : S → State → Prop} {BX : String → SX → State → Prop} {AX : Nat → Prop} (hr : vx_Run p l e R s m args below meth c H locs cells slots mc ms (F0 m pc ls st0) rest (va_Ql post B A1 a) (vx_X px BX AX) free) (hS : va_S A0 H0 H locs) (hA : ∀ q, q < H.size → A1 q → A0 q) (hf : ∀ q, free q → A0 q) (hAX : ∀ q, q < H.size → AX q → A0 q)
    (kx : ∀ (E : String) (ce : Cell) (q9 : Addr) (u : SX) (t : State) (H1 : Heap) (locs1 : List Loc), t.heap = H1 → s.vm.Alike t.vm → px u → BX E u t → H.size ≤ H1.size → (∀ q : Nat, q < H.size → ¬ AX q → H1[q]? = H[q]?) → va_S A0 H0 H1 locs1 → H1[q9]? = some ce → ce.vm = .none → s.vm.findClass E = some ce.cls → vx_W p l e R s m args below meth c H1 locs1 (cells + mc) (slots + ms) Q (F0 m pc ls rest) q9)
    (kk : ∀ (r : Int64) (u : S) (t : State) (H1 : Heap) (locs1 : List Loc), t.heap = H1 → s.vm.Alike t.vm → post r u → B u t → H.size ≤ H1.size → (∀ q : Nat, q < H.size → ¬ A1 q → H1[q]? = H[q]?) → va_S A0 H0 H1 locs1 → W p l e R s m args below meth c H1 locs1 (cells + mc) (slots + ms) Q (F0 m (pc + 3) ls (.long r :: rest))) : W p l e R s m args below meth c H locs cells slots Q (F0 m pc ls st0) := by
  intro T hT X
  rcases hr T hT X with ⟨v, st₀, t, T', L, h0, X', hL, e1, e2, ⟨⟨r, u, hv, hp, hb⟩, hF⟩, st⟩ | ⟨q, st₀, t, T', L, E, ce, h0, X', hL, e1, e2, ⟨u, hp, hb, hF⟩, hce, hcv, hcl, st⟩
  · cases hv
    obtain ⟨k1, k2, k3⟩ := vx_keep h0 e1 hS hA hf hL hF
    obtain ⟨t2, a1, b1⟩ := kk r u t T'.heap (locs ++ L) e1.symm (by rw [← e2]; exact X'.warmed.alike) hp hb k1 k2 k3 T' rfl X'
    exact ⟨t2, st t2 a1, b1⟩
  · obtain ⟨k1, k2, k3⟩ := vx_keep h0 e1 hS hAX hf hL hF
    obtain ⟨t2, a1, b1⟩ := kx E ce q u t T'.heap (locs ++ L) e1.symm (by rw [← e2]; exact X'.warmed.alike) hp hb k1 k2 k3 (by rw [e1]; exact hce) hcv hcl T' rfl X'
    exact ⟨t2, st.trans a1, b1⟩
theorem vx_callf {S SX : Type} {post : UInt32 → S → Prop} {px : SX → Prop} {B : S → State → Prop} {BX : String → SX → State → Prop} {AX : Nat → Prop} (hr : vx_Run p l e R s m args below meth c H locs cells slots mc ms (F0 m pc ls st0) rest (va_Qf post B A1 a) (vx_X px BX AX) free) (hS : va_S A0 H0 H locs) (hA : ∀ q, q < H.size → A1 q → A0 q) (hf : ∀ q, free q → A0 q) (hAX : ∀ q, q < H.size → AX q → A0 q)
    (kx : ∀ (E : String) (ce : Cell) (q9 : Addr) (u : SX) (t : State) (H1 : Heap) (locs1 : List Loc), t.heap = H1 → s.vm.Alike t.vm → px u → BX E u t → H.size ≤ H1.size → (∀ q : Nat, q < H.size → ¬ AX q → H1[q]? = H[q]?) → va_S A0 H0 H1 locs1 → H1[q9]? = some ce → ce.vm = .none → s.vm.findClass E = some ce.cls → vx_W p l e R s m args below meth c H1 locs1 (cells + mc) (slots + ms) Q (F0 m pc ls rest) q9)
    (kk : ∀ (r : UInt32) (u : S) (t : State) (H1 : Heap) (locs1 : List Loc), t.heap = H1 → s.vm.Alike t.vm → post r u → B u t → H.size ≤ H1.size → (∀ q : Nat, q < H.size → ¬ A1 q → H1[q]? = H[q]?) → va_S A0 H0 H1 locs1 → W p l e R s m args below meth c H1 locs1 (cells + mc) (slots + ms) Q (F0 m (pc + 3) ls (.float r :: rest))) : W p l e R s m args below meth c H locs cells slots Q (F0 m pc ls st0) := by
  intro T hT X
  rcases hr T hT X with ⟨v, st₀, t, T', L, h0, X', hL, e1, e2, ⟨⟨r, u, hv, hp, hb⟩, hF⟩, st⟩ | ⟨q, st₀, t, T', L, E, ce, h0, X', hL, e1, e2, ⟨u, hp, hb, hF⟩, hce, hcv, hcl, st⟩
  · cases hv
    obtain ⟨k1, k2, k3⟩ := vx_keep h0 e1 hS hA hf hL hF
    obtain ⟨t2, a1, b1⟩ := kk r u t T'.heap (locs ++ L) e1.symm (by rw [← e2]; exact X'.warmed.alike) hp hb k1 k2 k3 T' rfl X'
    exact ⟨t2, st t2 a1, b1⟩
  · obtain ⟨k1, k2, k3⟩ := vx_keep h0 e1 hS hAX hf hL hF
    obtain ⟨t2, a1, b1⟩ := kx E ce q u t T'.heap (locs ++ L) e1.symm (by rw [← e2]; exact X'.warmed.alike) hp hb k1 k2 k3 (by rw [e1]; exact hce) hcv hcl T' rfl X'
    exact ⟨t2, st.trans a1, b1⟩
theorem vx_calld {S SX : Type} {post : UInt64 → S → Prop} {px : SX → Prop} {B : S → State → Prop} {BX : String → SX → State → Prop} {AX : Nat → Prop} (hr : vx_Run p l e R s m args below meth c H locs cells slots mc ms (F0 m pc ls st0) rest (va_Qd post B A1 a) (vx_X px BX AX) free) (hS : va_S A0 H0 H locs) (hA : ∀ q, q < H.size → A1 q → A0 q) (hf : ∀ q, free q → A0 q) (hAX : ∀ q, q < H.size → AX q → A0 q)
    (kx : ∀ (E : String) (ce : Cell) (q9 : Addr) (u : SX) (t : State) (H1 : Heap) (locs1 : List Loc), t.heap = H1 → s.vm.Alike t.vm → px u → BX E u t → H.size ≤ H1.size → (∀ q : Nat, q < H.size → ¬ AX q → H1[q]? = H[q]?) → va_S A0 H0 H1 locs1 → H1[q9]? = some ce → ce.vm = .none → s.vm.findClass E = some ce.cls → vx_W p l e R s m args below meth c H1 locs1 (cells + mc) (slots + ms) Q (F0 m pc ls rest) q9)
    (kk : ∀ (r : UInt64) (u : S) (t : State) (H1 : Heap) (locs1 : List Loc), t.heap = H1 → s.vm.Alike t.vm → post r u → B u t → H.size ≤ H1.size → (∀ q : Nat, q < H.size → ¬ A1 q → H1[q]? = H[q]?) → va_S A0 H0 H1 locs1 → W p l e R s m args below meth c H1 locs1 (cells + mc) (slots + ms) Q (F0 m (pc + 3) ls (.double r :: rest))) : W p l e R s m args below meth c H locs cells slots Q (F0 m pc ls st0) := by
  intro T hT X
  rcases hr T hT X with ⟨v, st₀, t, T', L, h0, X', hL, e1, e2, ⟨⟨r, u, hv, hp, hb⟩, hF⟩, st⟩ | ⟨q, st₀, t, T', L, E, ce, h0, X', hL, e1, e2, ⟨u, hp, hb, hF⟩, hce, hcv, hcl, st⟩
  · cases hv
    obtain ⟨k1, k2, k3⟩ := vx_keep h0 e1 hS hA hf hL hF
    obtain ⟨t2, a1, b1⟩ := kk r u t T'.heap (locs ++ L) e1.symm (by rw [← e2]; exact X'.warmed.alike) hp hb k1 k2 k3 T' rfl X'
    exact ⟨t2, st t2 a1, b1⟩
  · obtain ⟨k1, k2, k3⟩ := vx_keep h0 e1 hS hAX hf hL hF
    obtain ⟨t2, a1, b1⟩ := kx E ce q u t T'.heap (locs ++ L) e1.symm (by rw [← e2]; exact X'.warmed.alike) hp hb k1 k2 k3 (by rw [e1]; exact hce) hcv hcl T' rfl X'
    exact ⟨t2, st.trans a1, b1⟩
theorem vx_callv {S SX : Type} {post : S → Prop} {px : SX → Prop} {B : S → State → Prop} {BX : String → SX → State → Prop} {AX : Nat → Prop} (hr : vx_Run p l e R s m args below meth c H locs cells slots mc ms (F0 m pc ls st0) rest (va_Qv post B A1 a) (vx_X px BX AX) free) (hS : va_S A0 H0 H locs) (hA : ∀ q, q < H.size → A1 q → A0 q) (hf : ∀ q, free q → A0 q) (hAX : ∀ q, q < H.size → AX q → A0 q)
    (kx : ∀ (E : String) (ce : Cell) (q9 : Addr) (u : SX) (t : State) (H1 : Heap) (locs1 : List Loc), t.heap = H1 → s.vm.Alike t.vm → px u → BX E u t → H.size ≤ H1.size → (∀ q : Nat, q < H.size → ¬ AX q → H1[q]? = H[q]?) → va_S A0 H0 H1 locs1 → H1[q9]? = some ce → ce.vm = .none → s.vm.findClass E = some ce.cls → vx_W p l e R s m args below meth c H1 locs1 (cells + mc) (slots + ms) Q (F0 m pc ls rest) q9)
    (kk : ∀ (u : S) (t : State) (H1 : Heap) (locs1 : List Loc), t.heap = H1 → s.vm.Alike t.vm → post u → B u t → H.size ≤ H1.size → (∀ q : Nat, q < H.size → ¬ A1 q → H1[q]? = H[q]?) → va_S A0 H0 H1 locs1 → W p l e R s m args below meth c H1 locs1 (cells + mc) (slots + ms) Q (F0 m (pc + 3) ls (rest))) : W p l e R s m args below meth c H locs cells slots Q (F0 m pc ls st0) := by
  intro T hT X
  rcases hr T hT X with ⟨v, st₀, t, T', L, h0, X', hL, e1, e2, ⟨⟨u, hv, hp, hb⟩, hF⟩, st⟩ | ⟨q, st₀, t, T', L, E, ce, h0, X', hL, e1, e2, ⟨u, hp, hb, hF⟩, hce, hcv, hcl, st⟩
  · cases hv
    obtain ⟨k1, k2, k3⟩ := vx_keep h0 e1 hS hA hf hL hF
    obtain ⟨t2, a1, b1⟩ := kk u t T'.heap (locs ++ L) e1.symm (by rw [← e2]; exact X'.warmed.alike) hp hb k1 k2 k3 T' rfl X'
    exact ⟨t2, st t2 a1, b1⟩
  · obtain ⟨k1, k2, k3⟩ := vx_keep h0 e1 hS hAX hf hL hF
    obtain ⟨t2, a1, b1⟩ := kx E ce q u t T'.heap (locs ++ L) e1.symm (by rw [← e2]; exact X'.warmed.alike) hp hb k1 k2 k3 (by rw [e1]; exact hce) hcv hcl T' rfl X'
    exact ⟨t2, st.trans a1, b1⟩
/-- caught by the row x of this method's table; the rows ahead don't take it -/
theorem vx_catch {own name : String} {E : String} {ce : Cell} {q : Addr} (hown : s.vm.findClass own = some m.cls) (pre : List ExceptionTableEntry) (x : ExceptionTableEntry) (suf : List ExceptionTableEntry) (hsplit : c.exceptionTable.toList = pre ++ x :: suf)
    (hpass : ∀ z ∈ pre, covers z pc = false ∨ (z.catchType ≠ 0 ∧ ∃ nm : String, (Cond.classLink own z.catchType nm).before args s = true ∧ va_Nc E nm s)) (hx : covers x pc = true) (h0 : x.catchType ≠ 0)
    (hlink : (Cond.classLink own x.catchType name).before args s = true) (hcast : (Cond.castable E name).before args s = true) (hcell : H[q]? = some ce) (hv : ce.vm = .none) (hcl : s.vm.findClass E = some ce.cls)
    (kk : W p l e R s m args below meth c H locs cells slots Q (F0 m x.handlerPc ls [.ref q])) : vx_W p l e R s m args below meth c H locs cells slots Q (F0 m pc ls rest) q := by
  intro T hT X
  have hpl : e.platform.magicAccessors = ({} : Platform).magicAccessors := by rw [X.admits.platform]
  obtain ⟨c3, c4, hc3, hc4, hasg⟩ := Cond.castable_spec hcast
  cases Option.some.inj (hc3.symm.trans hcl)
  obtain ⟨c5, hc5, hcl5⟩ := Cond.classLink_spec hown hlink e.platform hpl
  cases Option.some.inj (hc4.symm.trans hc5)
  obtain ⟨vm', X', st⟩ := X.thenCaughtThrough q (g := F0 m pc ls rest) rfl (Steps.refl _) (by rw [hT]; exact hcell) (by rw [hv]; rfl) (by obtain ⟨k9, h9, -⟩ := Vm.findClass_spec hcl; exact ⟨k9, h9⟩) pre x suf hsplit
    (fun z hz => by
      rcases hpass z hz with h | ⟨hz0, nm, hl1, hn1⟩
      · exact Or.inl h
      · obtain ⟨c6, hc6, hcl6⟩ := Cond.classLink_spec hown hl1 e.platform hpl
        obtain ⟨a8, b8, h1, h2, h3⟩ := hn1
        cases Option.some.inj (h1.symm.trans hcl)
        cases Option.some.inj (h2.symm.trans hc6)
        exact Or.inr ⟨hz0, _, hcl6, h3⟩) hx (Or.inr ⟨h0, c4, hcl5, hasg⟩)
  obtain ⟨t, a1, b1⟩ := kk (T.setVm vm') hT X'
  exact ⟨t, st.trans a1, b1⟩
end Rows
section Ends
variable {p : Program} {l : Launch} {e : Env} {R : Room} {s : State} {m : MethodId} {args : Array Value} {below : List Frame} {meth : Method} {c : Code} {H : Heap} {locs : List Loc} {cells slots : Nat} {Q : State → Prop}
variable {mc ms : Nat} {free : Addr → Prop} {A0 A1 : Nat → Prop} {H0 : Heap} {a : Array Value} {ls : Array Slot} {st0 rest : List Value}
variable {Qc : Array Value → State → Outcome → State → Prop} {XC : String → State → State → Prop}
/-- what a body that may throw owes at its end -/
def vx_MQ (below : List Frame) (Qc : Array Value → State → Outcome → State → Prop) (XC : String → State → State → Prop) (a : Array Value) (s : State) (mc ms : Nat) (free : Addr → Prop) : State → Prop := fun t =>
  ∃ o, t.status = .running ∧ Ended t below o ∧ vx_Q Qc XC mc ms free a s o t
theorem vx_ret {g : JFrame} {mc ms : Nat} (k : W p l e R s m args below meth c H locs cells slots (MQ below Qc args s mc ms free) g) : W p l e R s m args below meth c H locs cells slots (vx_MQ below Qc XC args s mc ms free) g := by
  intro T hT X
  obtain ⟨t, a1, o, b1, b2, b3, b4⟩ := k T hT X
  exact ⟨t, a1, o, b1, b2, Or.inl ⟨b3, b4⟩⟩
/-- not caught here: it goes on to the caller -/
theorem vx_widen {g : JFrame} {q : Addr} {k n : Nat} (h1 : cells ≤ k) (h2 : slots ≤ n) (kk : vx_W p l e R s m args below meth c H locs k n Q g q) : vx_W p l e R s m args below meth c H locs cells slots Q g q := fun T hT X => kk T hT (stand_widen X h1 h2)
theorem vx_out {pc : Nat} {E : String} {ce : Cell} {q : Addr} {mc ms : Nat} (hout : ∀ x ∈ c.exceptionTable.toList, covers x pc = false) (hlocks : meth.locks = false) (hcell : H[q]? = some ce) (hv : ce.vm = .none) (hcl : s.vm.findClass E = some ce.cls)
    (hx : ∀ t : State, t.heap = H → s.vm.Alike t.vm → XC E s t) (hf : ∀ z ∈ locs, free z.base) (hc : cells ≤ mc) (hs : slots ≤ ms) :
    vx_W p l e R s m args below meth c H locs cells slots (vx_MQ below Qc XC args s mc ms free) (F0 m pc ls rest) q := by
  intro T hT X
  obtain ⟨st1, hrun, hend, hW, hsm⟩ := X.leaveThrown q (g := F0 m pc ls rest) rfl rfl rfl hout hlocks
  have hcell9 : (T.setFrames (.throwing q :: below)).heap[q]? = some ce := by
    show T.heap[q]? = some ce
    rw [hT]; exact hcell
  exact ⟨_, st1, .threw q, hrun, hend, Or.inr ⟨q, rfl, E, ce, locs, hx _ hT hW.alike, hcell9, hv, hcl, hW, hsm.mono hc hs, hf⟩⟩
theorem vx_frame {U : State} {k n : Nat} (h : s.sameButNew ({ U with vm := s.vm } : State) locs k n) : s.heap.size ≤ U.heap.size ∧ ∀ q : Nat, q < s.heap.size → (∀ z ∈ locs, z.base ≠ q) → U.heap[q]? = s.heap[q]? := by
  obtain ⟨-, h2, -, -, -, h6⟩ := h
  refine ⟨h2, fun q hq hz => ?_⟩
  obtain ⟨c9, e1, e2, e3, e4⟩ := h6 q _ (Array.getElem?_eq_getElem hq)
  have hs : c9.slots = (s.heap[q]).slots := Array.ext_getElem? fun i => e4 i fun hm => hz _ hm rfl
  have h9 : c9 = s.heap[q] := by
    rw [hs] at e2
    exact e2
  have e5 : U.heap[q]? = some c9 := e1
  rw [e5, h9, Array.getElem?_eq_getElem hq]
/-- the words of a throw but the four that speak of the heap -/
def vx_no (w : Cond) : Bool := decide (w ≠ .isRef (.static Bundle.tN "UNASSIGNED_STACK" Bundle.steD)) && decide (w ≠ .isRef (.static Bundle.tN "SUPPRESSED_SENTINEL" Bundle.listD)) && decide (w ≠ .laysStatic Bundle.tN "UNASSIGNED_STACK" Bundle.steD) && decide (w ≠ .laysStatic Bundle.tN "SUPPRESSED_SENTINEL" Bundle.listD)
def vx_at0 (own : String) (ic : Nat) (X : String) (names : List String) : List Cond := (Bundle.ownAtoms0 own ic X names).filter vx_no
def vx_atS (own : String) (ic : Nat) (X : String) (names : List String) : List Cond := (Bundle.ownAtoms own ic X names).filter vx_no
/-- a word that the tables alone decide, or a good one -/
def vx_ot (w : Cond) : Bool := w.onTables || goodWord w
theorem vx_ot_at {args a' : Array Value} {s U : State} {w : Cond} (hW : s.WarmedH U.vm) (hvm : s.vm = U.vm) (hg : vx_ot w = true) (h : w.before args s = true) : w.before a' U = true := by
  simp only [vx_ot, Bool.or_eq_true] at hg
  rcases hg with hg | hg
  · exact va_tabs hg hvm h
  · exact word_at hW (good_of_word hg) h
/-- a list's words: the good ones out of the method's own list, the others by premises of their own -/
theorem vx_hat {args : Array Value} {s : State} {L B : List Cond} (h1 : ∀ w ∈ L.filter goodWord, w.before args s = true) (h2 : ∀ w ∈ L.filter (fun w => !goodWord w), w ∈ B) (h3 : ∀ w ∈ B, w.before args s = true) : ∀ w ∈ L, w.before args s = true := by
  intro w hw
  by_cases g : goodWord w = true
  · exact h1 w (List.mem_filter.mpr ⟨hw, g⟩)
  · refine h3 w (h2 w (List.mem_filter.mpr ⟨hw, ?_⟩))
    show (!goodWord w) = true
    cases hgw : goodWord w
    · rfl
    · exact absurd hgw g
theorem vx_c {args : Array Value} {s : State} {w : Cond} {B : List Cond} (h : w.before args s = true) (t : ∀ w ∈ B, w.before args s = true) : ∀ w' ∈ w :: B, w'.before args s = true := fun w' h' => (List.mem_cons.mp h').elim (fun e => by rw [e]; exact h) (t w')
theorem vx_n {args : Array Value} {s : State} : ∀ w ∈ ([] : List Cond), w.before args s = true := fun _ h => nomatch h
theorem vx_own {args : Array Value} {s : State} {L : List Cond} (h1 : ∀ w ∈ L.filter vx_no, w.before args s = true)
    (hU : (Cond.isRef (.static Bundle.tN "UNASSIGNED_STACK" Bundle.steD)).before args s = true) (hN : (Cond.isRef (.static Bundle.tN "SUPPRESSED_SENTINEL" Bundle.listD)).before args s = true)
    (lU : (Cond.laysStatic Bundle.tN "UNASSIGNED_STACK" Bundle.steD).before args s = true) (lN : (Cond.laysStatic Bundle.tN "SUPPRESSED_SENTINEL" Bundle.listD).before args s = true) : ∀ w ∈ L, w.before args s = true := by
  intro w hw
  by_cases e1 : w = .isRef (.static Bundle.tN "UNASSIGNED_STACK" Bundle.steD)
  · rw [e1]; exact hU
  · by_cases e2 : w = .isRef (.static Bundle.tN "SUPPRESSED_SENTINEL" Bundle.listD)
    · rw [e2]; exact hN
    · by_cases e3 : w = .laysStatic Bundle.tN "UNASSIGNED_STACK" Bundle.steD
      · rw [e3]; exact lU
      · by_cases e4 : w = .laysStatic Bundle.tN "SUPPRESSED_SENTINEL" Bundle.listD
        · rw [e4]; exact lN
        · exact h1 w (List.mem_filter.mpr ⟨hw, by unfold vx_no; rw [decide_eq_true e1, decide_eq_true e2, decide_eq_true e3, decide_eq_true e4]; rfl⟩)
/-- where a static field lies, its class's statics cell in H -/
def vx_L (C n d : String) (A : Nat → Prop) (U : State) (H : Heap) : Prop := ∃ (c : ClassId) (k : Class) (i : Nat) (f : Field) (a : Nat) (cell : Cell), U.vm.findClass C = some c ∧ U.fieldFound? C n d = some (c, k, i, f) ∧ f.isStatic = true ∧ k.statics = some a ∧ H[a]? = some cell ∧ cell.vm.isStatics = true ∧ cell.cls = c ∧ f.slot < cell.slots.size ∧ k.staticTypes[f.slot]? = some f.type ∧ ¬ A a
theorem vx_L.moved {C n d : String} {A : Nat → Prop} {u U : State} {H : Heap} (hvm : u.vm.Alike U.vm) (h : vx_L C n d A u H) : vx_L C n d A U H := by
  obtain ⟨c, k, i, f, a, cell, h1, h2, h3, h4, h5, h6, h7, h8, h9, h10⟩ := h
  obtain ⟨k', hi', he⟩ := State.fieldFound?_setVm hvm h2
  exact ⟨c, k', i, f, a, cell, by rw [hvm.findClass]; exact h1, hi', h3, by rw [he]; exact h4, h5, h6, h7, h8, by rw [he]; exact h9, h10⟩
theorem vx_L.kept {C n d : String} {A : Nat → Prop} {U : State} {H H1 : Heap} (h : vx_L C n d A U H) (hq : ∀ a : Nat, a < H.size → ¬ A a → H1[a]? = H[a]?) : vx_L C n d A U H1 := by
  obtain ⟨c, k, i, f, a, cell, h1, h2, h3, h4, h5, h6, h7, h8, h9, h10⟩ := h
  exact ⟨c, k, i, f, a, cell, h1, h2, h3, h4, by rw [hq a (Array.getElem?_eq_some_iff.mp h5).1 h10]; exact h5, h6, h7, h8, h9, h10⟩
theorem vx_L.narrow {C n d : String} {A B : Nat → Prop} {U : State} {H : Heap} (h : vx_L C n d A U H) (hAB : ∀ q, B q → A q) : vx_L C n d B U H := by
  obtain ⟨c, k, i, f, a, cell, h1, h2, h3, h4, h5, h6, h7, h8, h9, h10⟩ := h
  exact ⟨c, k, i, f, a, cell, h1, h2, h3, h4, h5, h6, h7, h8, h9, fun z => h10 (hAB _ z)⟩
theorem vx_L.word {C n d : String} {A : Nat → Prop} {s : State} {args : Array Value} (h : vx_L C n d A s s.heap) : (Cond.laysStatic C n d).before args s = true := by
  obtain ⟨c, k, i, f, a, cell, h1, h2, h3, h4, h5, h6, h7, h8, h9, -⟩ := h
  show (Cond.laysStatic C n d).holds args s none s [] = true
  exact Cond.laysStatic_of h1 h2 h3 h4 h5 h6 h7 h8 h9
/-- .. and what it holds: null or some reference -/
def vx_Zq (C n d : String) (A : Nat → Prop) (U : State) (H : Heap) : Prop := va_Zq C n d A U H ∧ vx_L C n d A U H
theorem vx_Zq.moved {C n d : String} {A : Nat → Prop} {u U : State} {H : Heap} (hvm : u.vm.Alike U.vm) (h : vx_Zq C n d A u H) : vx_Zq C n d A U H := ⟨va_Zq.moved hvm h.1, vx_L.moved hvm h.2⟩
theorem vx_Zq.kept {C n d : String} {A : Nat → Prop} {U : State} {H H1 : Heap} (h : vx_Zq C n d A U H) (hq : ∀ a : Nat, a < H.size → ¬ A a → H1[a]? = H[a]?) : vx_Zq C n d A U H1 := ⟨va_Zq.kept h.1 hq, vx_L.kept h.2 hq⟩
theorem vx_Zq.narrow {C n d : String} {A B : Nat → Prop} {U : State} {H : Heap} (h : vx_Zq C n d A U H) (hAB : ∀ q, B q → A q) : vx_Zq C n d B U H := ⟨va_Zq.narrow h.1 hAB, vx_L.narrow h.2 hAB⟩
theorem vx_Zqof {args : Array Value} {s : State} {C n d : String} {A : Nat → Prop} (hl : (Cond.laysStatic C n d).before args s = true) (hini : (Cond.initialized C).before args s = true) (h : (Cond.isRef (.static C n d)).before args s = true) (hA : ∀ a : Nat, a < s.heap.size → ¬ A a) : vx_Zq C n d A s s.heap := by
  refine ⟨va_Zqof hl hini h hA, ?_⟩
  obtain ⟨c, k, i, f, a, cell, h1, h2, h3, h4, h5, h6, h7, h8, h9⟩ := Cond.laysStatic_spec hl
  exact ⟨c, k, i, f, a, cell, h1, h2, h3, h4, h5, h6, h7, h8, h9, hA a (Array.getElem?_eq_some_iff.mp h5).1⟩
theorem vx_isRef {C n d : String} {v : Value} {A : Nat → Prop} {s : State} {args : Array Value} (h : va_Z C n d v A s s.heap) (hv : v.isRef = true) : (Cond.isRef (.static C n d)).before args s = true := by
  obtain ⟨cf, kf, fi, f, a, cell, h1, h2, h3, h4, h5, h6, h7, -⟩ := h
  have he : (Term.static C n d).eval args s none [] s = some v := by
    simp [Term.eval, State.fieldNamed?, h1, h2, h4, h5, h6, h7]
  simp only [Cond.before, Cond.holds, Cond.value, he]
  cases v <;> simp_all [Value.isRef]
theorem vx_isRefq {C n d : String} {A : Nat → Prop} {s : State} {args : Array Value} (h : va_Zq C n d A s s.heap) : (Cond.isRef (.static C n d)).before args s = true := by
  rcases h with h | ⟨t, h⟩
  · exact vx_isRef h rfl
  · exact vx_isRef h rfl
/-- the same frame, seen from here: as if the method were called anew in this heap -/
theorem vx_rebase {T : State} (X : Stand p l e R s m args below meth c T locs cells slots) {R' : Room} (hf : R'.frames ≤ R.frames) (hl : R'.locals ≤ R.locals) (hc : cells + R'.cells ≤ R.cells) (hs : slots + R'.slots ≤ R.slots) :
    Stand p l e R' ((T.setVm s.vm).setFrames (.invoking m args :: below)) m args below meth c T [] 0 0 := by
  have htop : (T.setVm s.vm).topJava?.isSome := X.here.top
  have hF : ((T.setVm s.vm).setFrames (.invoking m args :: below)).frames = .invoking m args :: below := State.frames_setFrames _ (State.cur_lt_of_top htop)
  obtain ⟨g₀, hg0⟩ := Option.isSome_iff_exists.mp htop
  obtain ⟨r, hr⟩ := State.topJava?_eq_some.mp hg0
  have hl9 : e.platform.stackLimits (T.setVm s.vm).me = e.platform.stackLimits s.me := X.limits
  have hb9 : (T.setVm s.vm).me.stackBytes = s.me.stackBytes := X.bytes
  refine ⟨X.admits, X.cas, X.clock, hF, ?_, X.hears, X.method, X.code, X.here, X.tail, X.warmed, ?_, ?_, ?_⟩
  · have h := X.room
    have hU : ((T.setVm s.vm).setFrames (.invoking m args :: below)).localsInUse = s.localsInUse := by
      rw [State.localsInUse_invoking hF (meth := meth) (c := c) X.method X.code, State.localsInUse_invoking X.frames X.method X.code]
    simp only [State.hasRoom, Bool.and_eq_true, decide_eq_true_eq] at h ⊢
    obtain ⟨⟨⟨⟨h1, h2, h3, h4, h5, h6⟩, h7⟩, h8⟩, h9⟩ := h
    rw [X.frames, List.length_cons] at h2 h3
    have q1 := X.heapSize
    have q2 := X.used
    simp only [hF, hU, List.length_cons, State.stackLimits_setFrames, State.stackBytes_setFrames, hl9, hb9]
    refine ⟨⟨⟨⟨by omega, by omega, by omega, by omega, by omega, h6⟩, ?_⟩, ?_⟩, X.book⟩
    · show T.heap.size + R'.cells ≤ e.platform.maxCells
      omega
    · show T.slotsUsed + R'.slots ≤ e.platform.maxSlots
      omega
  · rw [State.stackLimits_setFrames]; rfl
  · rw [State.stackBytes_setFrames]; rfl
  · refine ⟨?_, Nat.le_refl _, Nat.le_refl _, ?_, ?_, fun a c9 h9 => ⟨c9, h9, rfl, rfl, fun _ _ => rfl⟩⟩
    · obtain ⟨t, ht, -⟩ := State.frames_cons hr
      show T.setVm s.vm = { ((T.setVm s.vm).setFrames (.invoking m args :: below)).setFrames (T.setVm s.vm).frames with heap := T.heap, slotsUsed := T.slotsUsed }
      rw [State.setFrames_setFrames, State.setFrames_self ht]
      rfl
    · show T.slotsUsed = T.slotsUsed + ((T.heap.toList.drop T.heap.size).map (·.slots.size)).sum
      rw [List.drop_eq_nil_of_le (Nat.le_of_eq Array.length_toList)]
      rfl
    · show ((T.heap.toList.drop T.heap.size).map (·.slots.size)).sum ≤ 0
      rw [List.drop_eq_nil_of_le (Nat.le_of_eq Array.length_toList)]
      exact Nat.le_refl _
/-- 'throw new E()': new; dup; invokespecial; athrow -/
theorem vx_throw0 {cc : ByteArray} {pc : Nat} (hexec : p.tables.exec = Jvm.exec) (hb : c.code = cc) (hl : l.stackTraces = false) {own cls : String} {names : List String} {ik ic mc ms : Nat} {A : Nat → Prop}
    (hown : s.vm.findClass own = some m.cls) (hcls : Bundle.fit cls = true) (hnames : ∀ n ∈ names, Bundle.fit n = true)
    (hk : (Cond.classLink own ik cls).before args s = true) (hini : (Cond.initialized cls).before args s = true) (hat : ∀ w ∈ vx_at0 own ic cls names, w.before args s = true)
    (hgood : ∀ w ∈ Cond.classLink own ik cls :: Cond.initialized cls :: vx_at0 own ic cls names, vx_ot w = true)
    (hU : vx_Zq Bundle.tN "UNASSIGNED_STACK" Bundle.steD A s s.heap) (hN : vx_Zq Bundle.tN "SUPPRESSED_SENTINEL" Bundle.listD A s s.heap) (hS : va_S A s.heap H locs) (hsize : ls.size = c.maxLocals)
    (d0 : decode cc pc = .ok (.new ik, 3)) (d3 : decode cc (pc + 3) = .ok (.dup, 1)) (d4 : decode cc (pc + 4) = .ok (.invokespecial ic, 3)) (d7 : decode cc (pc + 7) = .ok (.athrow, 1))
    (hout : ∀ x ∈ c.exceptionTable.toList, covers x (pc + 7) = false)
    (hRframes : names.length + 3 < R.frames) (hRlocals : (rest.map fun v => v.category).sum + (13 * (names.length + 1) + 42) ≤ R.locals) (hRcells : cells + 1 ≤ R.cells) (hRslots : slots + 6 ≤ R.slots) (hlocks : meth.locks = false)
    (hx : ∀ t : State, s.vm.Alike t.vm → H.size ≤ t.heap.size → (∀ q : Nat, q < H.size → t.heap[q]? = H[q]?) → XC cls s t)
    (hf : ∀ z ∈ locs, free z.base) (hc : cells + 1 ≤ mc) (hs : slots + 6 ≤ ms) :
    W p l e R s m args below meth c H locs cells slots (vx_MQ below Qc XC args s mc ms free) (F0 m pc ls rest) := by
  intro T hT X
  have htr : e.platform.stackTraces = false := (show e.platform.stackTraces = l.stackTraces by rw [X.admits.platform]).trans hl
  have Y := vx_rebase X (R' := { frames := R.frames, locals := R.locals, cells := 1, slots := 6 }) (Nat.le_refl _) (Nat.le_refl _) hRcells hRslots
  obtain ⟨s', hA⟩ : ∃ z, z = (T.setVm s.vm).setFrames (.invoking m args :: below) := ⟨_, rfl⟩
  rw [← hA] at Y
  have hvm : s'.vm = s.vm := by rw [hA]; rfl
  have hhp : s'.heap = H := by rw [hA]; exact hT
  have hW0 : s.WarmedH s'.vm := by rw [hvm]; exact State.WarmedH.refl s
  have hat' : ∀ w ∈ vx_at0 own ic cls names, w.before args s' = true := fun w hw => vx_ot_at hW0 hvm.symm (hgood w (List.mem_cons_of_mem _ (List.mem_cons_of_mem _ hw))) (hat w hw)
  have hk' : (Cond.classLink own ik cls).before args s' = true := vx_ot_at hW0 hvm.symm (hgood _ List.mem_cons_self) hk
  have hini' : (Cond.initialized cls).before args s' = true := vx_ot_at hW0 hvm.symm (hgood _ (List.mem_cons_of_mem _ List.mem_cons_self)) hini
  have hU' : vx_Zq Bundle.tN "UNASSIGNED_STACK" Bundle.steD A s' s'.heap := by rw [hhp]; exact vx_Zq.moved hW0.alike (hU.kept hS.2.1)
  have hN' : vx_Zq Bundle.tN "SUPPRESSED_SENTINEL" Bundle.listD A s' s'.heap := by rw [hhp]; exact vx_Zq.moved hW0.alike (hN.kept hS.2.1)
  have h : ∀ w ∈ Bundle.ownAtoms0 own ic cls names, w.before args s' = true := vx_own hat' (vx_isRefq hU'.1) (vx_isRefq hN'.1) hU'.2.word hN'.2.word
  have hown' : s'.vm.findClass own = some m.cls := by rw [hvm]; exact hown
  have hins : (Cond.instantiable cls 6).before args s' = true := h _ (by simp [Bundle.ownAtoms0])
  obtain ⟨vm₁, cX, kX, hfX, hkX, -, -, X₁, st1⟩ := Y.newCold hexec (own := own) (C := cls) (index := ik) (n := 6) hown' hk' hins hini'
    (g := F0 m pc ls rest) rfl (by rw [hb]; exact d0) (Nat.le_refl _) (Nat.le_refl _)
  generalize hT1 : (T.setVm vm₁).pushCell { cls := cX, slots := kX.instanceTypes.map defaultValue, vm := .none } = T1 at X₁ st1
  have hcat : (Value.ref T.heap.size).category = 1 := rfl
  have hcellA : T1.heap[T.heap.size]? = some (freshCell cX kX) := by rw [← hT1]; exact State.heap_pushCell_size _ _
  have d3' : decode c.code (pc + 3) = .ok (.dup, 1) := by rw [hb]; exact d3
  obtain ⟨U, hsteps, hrun, hend, hW, hsame, ce, hce, hO⟩ := X₁.ctorThrow0 hexec htr (own := own) (cls := cls) (names := names) (ic := ic) hown' hcls hnames h (fun x hx => nomatch hx) hfX hkX hcellA (by rw [hhp, hT]; exact Nat.le_refl _)
    (g := { method := m, pc := pc + 4, locals := ls, stack := .ref T.heap.size :: .ref T.heap.size :: rest, locked := none }) rfl hsize rfl rfl (rest := rest) rfl
    (by rw [hb]; exact d4) (by rw [hb]; exact d7) hout hRframes (by simp only [List.map_cons, List.sum_cons, hcat]; omega) hlocks
  obtain ⟨f1, f2⟩ := vx_frame hsame
  rw [hhp] at f1 f2
  have hWs : s.WarmedH U.vm := State.WarmedH.trans hW0 hW
  have hcl : s.vm.findClass cls = some ce.cls := by
    have h9 := hO.cls
    rw [hvm] at h9
    exact h9
  have hall : s.sameButNew ({ U with vm := s.vm } : State) locs mc ms := by
    subst hA
    obtain ⟨e1, e2⟩ := hsame
    rw [State.setFrames_setFrames] at e1
    have h2 : (T.setVm s.vm).sameButNew ({ U with vm := s.vm } : State) [] (0 + 1) (0 + 6) := ⟨e1, e2⟩
    have h3 := X.same.trans h2
    rw [List.append_nil] at h3
    exact h3.mono hc hs
  refine ⟨U, ?_, .threw T.heap.size, hrun, hend, Or.inr ⟨T.heap.size, rfl, cls, ce, locs, hx U hWs.alike f1 (fun q hq => f2 q hq (fun z hz => nomatch hz)), hce, hO.vm, hcl, hWs, hall, hf⟩⟩
  refine st1 _ ?_
  show Steps p.tables e below (T1.setTop { method := m, pc := pc + 3, locals := ls, stack := .ref T.heap.size :: rest, locked := none }) _
  jvm_step X₁.here [X₁.here.top, hexec, d3', Value.category]
  exact hsteps
/-- 'throw new E("text")': new; dup; ldc; invokespecial; athrow -/
theorem vx_throwS {cc : ByteArray} {pc : Nat} (hexec : p.tables.exec = Jvm.exec) (hb : c.code = cc) (hl : l.stackTraces = false) {own cls text : String} {names : List String} {ik is ic mc ms sa : Nat} {A : Nat → Prop}
    (hown : s.vm.findClass own = some m.cls) (hcls : Bundle.fit cls = true) (hnames : ∀ n ∈ names, Bundle.fit n = true)
    (hk : (Cond.classLink own ik cls).before args s = true) (hini : (Cond.initialized cls).before args s = true) (hstr : vk_R own is text sa s) (hat : ∀ w ∈ vx_atS own ic cls names, w.before args s = true)
    (hgood : ∀ w ∈ Cond.classLink own ik cls :: Cond.initialized cls :: vx_atS own ic cls names, vx_ot w = true)
    (hU : vx_Zq Bundle.tN "UNASSIGNED_STACK" Bundle.steD A s s.heap) (hN : vx_Zq Bundle.tN "SUPPRESSED_SENTINEL" Bundle.listD A s s.heap) (hS : va_S A s.heap H locs) (hsize : ls.size = c.maxLocals)
    (d0 : decode cc pc = .ok (.new ik, 3)) (d3 : decode cc (pc + 3) = .ok (.dup, 1)) (d4 : decode cc (pc + 4) = .ok (.ldc is, 2)) (d6 : decode cc (pc + 6) = .ok (.invokespecial ic, 3)) (d9 : decode cc (pc + 9) = .ok (.athrow, 1))
    (hout : ∀ x ∈ c.exceptionTable.toList, covers x (pc + 9) = false)
    (hRframes : names.length + 3 < R.frames) (hRlocals : (rest.map fun v => v.category).sum + (13 * (names.length + 1) + 43) ≤ R.locals) (hRcells : cells + 1 ≤ R.cells) (hRslots : slots + 6 ≤ R.slots) (hlocks : meth.locks = false)
    (hx : ∀ t : State, s.vm.Alike t.vm → H.size ≤ t.heap.size → (∀ q : Nat, q < H.size → t.heap[q]? = H[q]?) → XC cls s t)
    (hf : ∀ z ∈ locs, free z.base) (hc : cells + 1 ≤ mc) (hs : slots + 6 ≤ ms) :
    W p l e R s m args below meth c H locs cells slots (vx_MQ below Qc XC args s mc ms free) (F0 m pc ls rest) := by
  intro T hT X
  have htr : e.platform.stackTraces = false := (show e.platform.stackTraces = l.stackTraces by rw [X.admits.platform]).trans hl
  have Y := vx_rebase X (R' := { frames := R.frames, locals := R.locals, cells := 1, slots := 6 }) (Nat.le_refl _) (Nat.le_refl _) hRcells hRslots
  obtain ⟨s', hA⟩ : ∃ z, z = (T.setVm s.vm).setFrames (.invoking m args :: below) := ⟨_, rfl⟩
  rw [← hA] at Y
  have hvm : s'.vm = s.vm := by rw [hA]; rfl
  have hhp : s'.heap = H := by rw [hA]; exact hT
  have hW0 : s.WarmedH s'.vm := by rw [hvm]; exact State.WarmedH.refl s
  have hat' : ∀ w ∈ vx_atS own ic cls names, w.before args s' = true := fun w hw => vx_ot_at hW0 hvm.symm (hgood w (List.mem_cons_of_mem _ (List.mem_cons_of_mem _ hw))) (hat w hw)
  have hk' : (Cond.classLink own ik cls).before args s' = true := vx_ot_at hW0 hvm.symm (hgood _ List.mem_cons_self) hk
  have hini' : (Cond.initialized cls).before args s' = true := vx_ot_at hW0 hvm.symm (hgood _ (List.mem_cons_of_mem _ List.mem_cons_self)) hini
  have hU' : vx_Zq Bundle.tN "UNASSIGNED_STACK" Bundle.steD A s' s'.heap := by rw [hhp]; exact vx_Zq.moved hW0.alike (hU.kept hS.2.1)
  have hN' : vx_Zq Bundle.tN "SUPPRESSED_SENTINEL" Bundle.listD A s' s'.heap := by rw [hhp]; exact vx_Zq.moved hW0.alike (hN.kept hS.2.1)
  have h : ∀ w ∈ Bundle.ownAtoms own ic cls names, w.before args s' = true := vx_own hat' (vx_isRefq hU'.1) (vx_isRefq hN'.1) hU'.2.word hN'.2.word
  have hown' : s'.vm.findClass own = some m.cls := by rw [hvm]; exact hown
  have hins : (Cond.instantiable cls 6).before args s' = true := h _ (by simp [Bundle.ownAtoms])
  obtain ⟨vm₁, cX, kX, hfX, hkX, -, -, X₁, st1⟩ := Y.newCold hexec (own := own) (C := cls) (index := ik) (n := 6) hown' hk' hins hini'
    (g := F0 m pc ls rest) rfl (by rw [hb]; exact d0) (Nat.le_refl _) (Nat.le_refl _)
  generalize hT1 : (T.setVm vm₁).pushCell { cls := cX, slots := kX.instanceTypes.map defaultValue, vm := .none } = T1 at X₁ st1
  have hcat : (Value.ref T.heap.size).category = 1 := rfl
  have hcellA : T1.heap[T.heap.size]? = some (freshCell cX kX) := by rw [← hT1]; exact State.heap_pushCell_size _ _
  have d3' : decode c.code (pc + 3) = .ok (.dup, 1) := by rw [hb]; exact d3
  have d4' : decode c.code (pc + 4) = .ok (.ldc is, 2) := by rw [hb]; exact d4
  have hstr' : vk_R own is text sa s' := vk_R.warm hW0 hstr
  obtain ⟨U, hsteps, hrun, hend, hW, hsame, ce, hce, hO⟩ := X₁.ctorThrowS hexec htr (own := own) (cls := cls) (names := names) (ic := ic) hown' hcls hnames h (fun x hx => nomatch hx) hfX hkX hcellA (by rw [hhp, hT]; exact Nat.le_refl _) (msg := .ref sa) rfl
    (g := { method := m, pc := pc + 6, locals := ls, stack := .ref sa :: .ref T.heap.size :: .ref T.heap.size :: rest, locked := none }) rfl hsize rfl rfl (rest := rest) rfl
    (by rw [hb]; exact d6) (by rw [hb]; exact d9) hout hRframes (by simp only [List.map_cons, List.sum_cons, hcat]; omega) hlocks
  obtain ⟨f1, f2⟩ := vx_frame hsame
  rw [hhp] at f1 f2
  have hWs : s.WarmedH U.vm := State.WarmedH.trans hW0 hW
  have hcl : s.vm.findClass cls = some ce.cls := by
    have h9 := hO.cls
    rw [hvm] at h9
    exact h9
  have hall : s.sameButNew ({ U with vm := s.vm } : State) locs mc ms := by
    subst hA
    obtain ⟨e1, e2⟩ := hsame
    rw [State.setFrames_setFrames] at e1
    have h2 : (T.setVm s.vm).sameButNew ({ U with vm := s.vm } : State) [] (0 + 1) (0 + 6) := ⟨e1, e2⟩
    have h3 := X.same.trans h2
    rw [List.append_nil] at h3
    exact h3.mono hc hs
  refine ⟨U, ?_, .threw T.heap.size, hrun, hend, Or.inr ⟨T.heap.size, rfl, cls, ce, locs, hx U hWs.alike f1 (fun q hq => f2 q hq (fun z hz => nomatch hz)), hce, hO.vm, hcl, hWs, hall, hf⟩⟩
  refine st1 _ ?_
  show Steps p.tables e below (T1.setTop { method := m, pc := pc + 3, locals := ls, stack := .ref T.heap.size :: rest, locked := none }) _
  jvm_step X₁.here [X₁.here.top, hexec, d3', Value.category]
  exact X₁.ldcString hexec (own := own) (text := text) (index := is) (a := sa) hown' hstr'.1 hstr'.2
    (g := { method := m, pc := pc + 4, locals := ls, stack := .ref T.heap.size :: .ref T.heap.size :: rest, locked := none }) rfl d4' _ hsteps
/-- 'throw new E("text")', the text by a wide index -/
theorem vx_throwSW {cc : ByteArray} {pc : Nat} (hexec : p.tables.exec = Jvm.exec) (hb : c.code = cc) (hl : l.stackTraces = false) {own cls text : String} {names : List String} {ik is ic mc ms sa : Nat} {A : Nat → Prop}
    (hown : s.vm.findClass own = some m.cls) (hcls : Bundle.fit cls = true) (hnames : ∀ n ∈ names, Bundle.fit n = true)
    (hk : (Cond.classLink own ik cls).before args s = true) (hini : (Cond.initialized cls).before args s = true) (hstr : vk_R own is text sa s) (hat : ∀ w ∈ vx_atS own ic cls names, w.before args s = true)
    (hgood : ∀ w ∈ Cond.classLink own ik cls :: Cond.initialized cls :: vx_atS own ic cls names, vx_ot w = true)
    (hU : vx_Zq Bundle.tN "UNASSIGNED_STACK" Bundle.steD A s s.heap) (hN : vx_Zq Bundle.tN "SUPPRESSED_SENTINEL" Bundle.listD A s s.heap) (hS : va_S A s.heap H locs) (hsize : ls.size = c.maxLocals)
    (d0 : decode cc pc = .ok (.new ik, 3)) (d3 : decode cc (pc + 3) = .ok (.dup, 1)) (d4 : decode cc (pc + 4) = .ok (.ldc_w is, 3)) (d7 : decode cc (pc + 7) = .ok (.invokespecial ic, 3)) (d10 : decode cc (pc + 10) = .ok (.athrow, 1))
    (hout : ∀ x ∈ c.exceptionTable.toList, covers x (pc + 10) = false)
    (hRframes : names.length + 3 < R.frames) (hRlocals : (rest.map fun v => v.category).sum + (13 * (names.length + 1) + 43) ≤ R.locals) (hRcells : cells + 1 ≤ R.cells) (hRslots : slots + 6 ≤ R.slots) (hlocks : meth.locks = false)
    (hx : ∀ t : State, s.vm.Alike t.vm → H.size ≤ t.heap.size → (∀ q : Nat, q < H.size → t.heap[q]? = H[q]?) → XC cls s t)
    (hf : ∀ z ∈ locs, free z.base) (hc : cells + 1 ≤ mc) (hs : slots + 6 ≤ ms) :
    W p l e R s m args below meth c H locs cells slots (vx_MQ below Qc XC args s mc ms free) (F0 m pc ls rest) := by
  intro T hT X
  have htr : e.platform.stackTraces = false := (show e.platform.stackTraces = l.stackTraces by rw [X.admits.platform]).trans hl
  have Y := vx_rebase X (R' := { frames := R.frames, locals := R.locals, cells := 1, slots := 6 }) (Nat.le_refl _) (Nat.le_refl _) hRcells hRslots
  obtain ⟨s', hA⟩ : ∃ z, z = (T.setVm s.vm).setFrames (.invoking m args :: below) := ⟨_, rfl⟩
  rw [← hA] at Y
  have hvm : s'.vm = s.vm := by rw [hA]; rfl
  have hhp : s'.heap = H := by rw [hA]; exact hT
  have hW0 : s.WarmedH s'.vm := by rw [hvm]; exact State.WarmedH.refl s
  have hat' : ∀ w ∈ vx_atS own ic cls names, w.before args s' = true := fun w hw => vx_ot_at hW0 hvm.symm (hgood w (List.mem_cons_of_mem _ (List.mem_cons_of_mem _ hw))) (hat w hw)
  have hk' : (Cond.classLink own ik cls).before args s' = true := vx_ot_at hW0 hvm.symm (hgood _ List.mem_cons_self) hk
  have hini' : (Cond.initialized cls).before args s' = true := vx_ot_at hW0 hvm.symm (hgood _ (List.mem_cons_of_mem _ List.mem_cons_self)) hini
  have hU' : vx_Zq Bundle.tN "UNASSIGNED_STACK" Bundle.steD A s' s'.heap := by rw [hhp]; exact vx_Zq.moved hW0.alike (hU.kept hS.2.1)
  have hN' : vx_Zq Bundle.tN "SUPPRESSED_SENTINEL" Bundle.listD A s' s'.heap := by rw [hhp]; exact vx_Zq.moved hW0.alike (hN.kept hS.2.1)
  have h : ∀ w ∈ Bundle.ownAtoms own ic cls names, w.before args s' = true := vx_own hat' (vx_isRefq hU'.1) (vx_isRefq hN'.1) hU'.2.word hN'.2.word
  have hown' : s'.vm.findClass own = some m.cls := by rw [hvm]; exact hown
  have hins : (Cond.instantiable cls 6).before args s' = true := h _ (by simp [Bundle.ownAtoms])
  obtain ⟨vm₁, cX, kX, hfX, hkX, -, -, X₁, st1⟩ := Y.newCold hexec (own := own) (C := cls) (index := ik) (n := 6) hown' hk' hins hini'
    (g := F0 m pc ls rest) rfl (by rw [hb]; exact d0) (Nat.le_refl _) (Nat.le_refl _)
  generalize hT1 : (T.setVm vm₁).pushCell { cls := cX, slots := kX.instanceTypes.map defaultValue, vm := .none } = T1 at X₁ st1
  have hcat : (Value.ref T.heap.size).category = 1 := rfl
  have hcellA : T1.heap[T.heap.size]? = some (freshCell cX kX) := by rw [← hT1]; exact State.heap_pushCell_size _ _
  have d3' : decode c.code (pc + 3) = .ok (.dup, 1) := by rw [hb]; exact d3
  have d4' : decode c.code (pc + 4) = .ok (.ldc_w is, 3) := by rw [hb]; exact d4
  have hstr' : vk_R own is text sa s' := vk_R.warm hW0 hstr
  obtain ⟨U, hsteps, hrun, hend, hW, hsame, ce, hce, hO⟩ := X₁.ctorThrowS hexec htr (own := own) (cls := cls) (names := names) (ic := ic) hown' hcls hnames h (fun x hx => nomatch hx) hfX hkX hcellA (by rw [hhp, hT]; exact Nat.le_refl _) (msg := .ref sa) rfl
    (g := { method := m, pc := pc + 7, locals := ls, stack := .ref sa :: .ref T.heap.size :: .ref T.heap.size :: rest, locked := none }) rfl hsize rfl rfl (rest := rest) rfl
    (by rw [hb]; exact d7) (by rw [hb]; exact d10) hout hRframes (by simp only [List.map_cons, List.sum_cons, hcat]; omega) hlocks
  obtain ⟨f1, f2⟩ := vx_frame hsame
  rw [hhp] at f1 f2
  have hWs : s.WarmedH U.vm := State.WarmedH.trans hW0 hW
  have hcl : s.vm.findClass cls = some ce.cls := by
    have h9 := hO.cls
    rw [hvm] at h9
    exact h9
  have hall : s.sameButNew ({ U with vm := s.vm } : State) locs mc ms := by
    subst hA
    obtain ⟨e1, e2⟩ := hsame
    rw [State.setFrames_setFrames] at e1
    have h2 : (T.setVm s.vm).sameButNew ({ U with vm := s.vm } : State) [] (0 + 1) (0 + 6) := ⟨e1, e2⟩
    have h3 := X.same.trans h2
    rw [List.append_nil] at h3
    exact h3.mono hc hs
  refine ⟨U, ?_, .threw T.heap.size, hrun, hend, Or.inr ⟨T.heap.size, rfl, cls, ce, locs, hx U hWs.alike f1 (fun q hq => f2 q hq (fun z hz => nomatch hz)), hce, hO.vm, hcl, hWs, hall, hf⟩⟩
  refine st1 _ ?_
  show Steps p.tables e below (T1.setTop { method := m, pc := pc + 3, locals := ls, stack := .ref T.heap.size :: rest, locked := none }) _
  jvm_step X₁.here [X₁.here.top, hexec, d3', Value.category]
  exact X₁.ldcStringW hexec (own := own) (text := text) (index := is) (a := sa) hown' hstr'.1 hstr'.2
    (g := { method := m, pc := pc + 4, locals := ls, stack := .ref T.heap.size :: .ref T.heap.size :: rest, locked := none }) rfl d4' _ hsteps
end Ends
section Bodies
variable {l : Launch}
theorem vx_ofW {y : MethodName} {ws ws' : List Cond} {rm : Room} {Pc : Array Value → State → Prop} {Qc : Array Value → State → Outcome → State → Prop} {XC : String → State → State → Prop} {mc ms : Nat} {free : Addr → Prop} {cc : ByteArray} {maxL : Nat} {ret : Option FieldType}
    (hy : plainName y.cls = true) (hw : ws = Cond.code y cc maxL ret :: ws')
    (body : ∀ p e s m args below meth c s₁, BodyLoose p l y (headSpec ws rm) cc maxL ret e s m args below meth c s₁ → c.maxLocals = maxL → (∀ x ∈ c.exceptionTable.toList, False) → Pc args s →
      W p l e (headSpec ws rm).room s m args below meth c s.heap [] 0 0 (vx_MQ below Qc XC args s mc ms free) (entryFrame m args maxL)) : vx_Met l y ws rm Pc Qc XC mc ms free := by
  refine MetFree.of_bodyS (code := cc) (maxLocals := maxL) (ret := ret) hy ?_ ?_
  · intro args s m h hn
    obtain ⟨meth, c, h1, h2, h3, h4, h5, h6, -, -⟩ := Cond.code_spec hn (atoms_spec (ws := ws) h _ (by rw [hw]; exact List.mem_cons_self))
    exact ⟨meth, c, h1, h2, h3, h4, h5, h6⟩
  · intro p e s m args below meth c s₁ B hml hP _
    have hh0 : s₁.heap = s.heap := by rw [B.state]; rfl
    have ht : ∀ x ∈ c.exceptionTable.toList, False := by
      obtain ⟨meth9, c9, h1, h2, -, -, -, -, h7, -⟩ := Cond.code_spec B.named (atoms_spec (ws := ws) B.pre _ (by rw [hw]; exact List.mem_cons_self))
      cases Option.some.inj (h1.symm.trans B.method)
      cases Option.some.inj (h2.symm.trans (Stand.of_body B).code)
      intro x hx
      rw [Array.isEmpty_iff.mp h7] at hx
      cases hx
    obtain ⟨t, a1, o, b1, b2, b3⟩ := body p e s m args below meth c s₁ B hml ht hP s₁ hh0 (Stand.of_body B)
    exact ⟨t, o, a1, b1, b2, b3⟩
/-- the table of a body with handlers -/
theorem vx_table {p : Program} {x y : MethodName} {S : Spec} {cc bytes : ByteArray} {maxL maxL' : Nat} {ret ret' : Option FieldType} {e : Env} {s s₁ : State} {m : MethodId} {args : Array Value} {below : List Frame} {meth : Method} {c : Code} {hh : List (Nat × Nat × Nat × Nat)}
    (B : BodyLoose p l y S cc maxL ret e s m args below meth c s₁) (h : (Cond.codeWith y bytes maxL' ret' hh).before args s = true) : c.exceptionTable.toList = tableOf hh := by
  obtain ⟨m9, meth9, c9, hn9, h1, h2, -, -, h6, -⟩ := Cond.codeWith_spec h
  cases Option.some.inj (hn9.symm.trans B.named)
  cases Option.some.inj (h1.symm.trans B.method)
  cases Option.some.inj (h2.symm.trans (Stand.of_body B).code)
  rw [← h6, table_eq]
end Bodies
end VXA
/-! ===== END ===== -/
/-! ===== BEGIN a static call of a method with an exception table ===== -/
section VXS
variable {p : Program} {l : Launch} {e : Env} {R : Room} {s : State} {m : MethodId} {args : Array Value} {below : List Frame} {meth : Method} {c : Code} {T : State} {H : Heap} {locs : List Loc} {cells slots : Nat}
abbrev vx_CSW (R : Room) (s : State) (args : Array Value) (own : String) (index : Nat) (y : MethodName) (bytes : ByteArray) (maxL : Nat) (ret : Option FieldType) (hh : List (Nat × Nat × Nat × Nat)) (ws : List Cond) (rm : Room) (mc ms n : Nat) : Prop :=
  (rm.cells = mc ∧ rm.slots = ms ∧ rm.frames + 1 ≤ R.frames ∧ 8 + (maxL + 11) + rm.locals ≤ R.locals ∧ (∀ w ∈ ws, ∀ (a' : Array Value) (U : State), s.WarmedH U.vm → w.before a' U = true) ∧ Cond.codeWith y bytes maxL ret hh ∈ ws) ∧
  (Cond.codeWith y bytes maxL ret hh).before args s = true ∧ (Cond.initialized y.cls).before args s = true ∧ (y.cls ≠ "java/lang/invoke/MethodHandle" ∧ y.cls ≠ "java/lang/invoke/VarHandle") ∧
  (∀ sig, parseMethodDescriptor y.desc = some sig → n = sig.parameters.length) ∧ (Cond.methodLink own index y).before args s = true ∧ (Cond.static y).before args s = true
theorem vx_cwSW {own : String} {index maxL mc ms : Nat} {y : MethodName} {bytes : ByteArray} {ret : Option FieldType} {hh : List (Nat × Nat × Nat × Nat)} {Ts ws ws' : List Cond} {rm : Room} (n : Nat) (ht : ∀ w ∈ Ts, w.before args s = true) (hT : GoodIn Ts (va_wsS own index y ws)) (hw : ws = Cond.codeWith y bytes maxL ret hh :: ws') (hrc : rm.cells = mc) (hrs : rm.slots = ms)
    (hd : y.cls ≠ "java/lang/invoke/MethodHandle" ∧ y.cls ≠ "java/lang/invoke/VarHandle" ∧ (parseMethodDescriptor y.desc).map (fun d => d.parameters.length) = some n) (hR : rm.frames + 1 ≤ R.frames ∧ 8 + (maxL + 11) + rm.locals ≤ R.locals) :
    vx_CSW R s args own index y bytes maxL ret hh ws rm mc ms n := by
  have ok : ∀ w ∈ va_wsS own index y ws, w.before args s = true := fun w h => ht w (hT w h).1
  have hG : GoodIn Ts ws := fun w h => hT w (by unfold va_wsS; exact List.mem_append_right _ h)
  have hc : Cond.codeWith y bytes maxL ret hh ∈ ws := by rw [hw]; exact List.mem_cons_self
  refine ⟨⟨hrc, hrs, hR.1, hR.2, pay_in ht hG, hc⟩, ht _ (hG _ hc).1, ok _ (by simp [va_wsS]), ⟨hd.1, hd.2.1⟩, fun sig h => ?_, ok _ (by simp [va_wsS]), ok _ (by simp [va_wsS])⟩
  have h2 := hd.2.2
  rw [h] at h2
  exact (Option.some.inj h2).symm
theorem vx_callSW (X : Stand p l e R s m args below meth c T locs cells slots) (hexec : p.tables.exec = Jvm.exec) {own : String} {index : Nat} {y : MethodName} {bytes : ByteArray} {maxL : Nat} {ret : Option FieldType} {hh : List (Nat × Nat × Nat × Nat)}
    (hown : s.vm.findClass own = some m.cls) (hlink : (Cond.methodLink own index y).before args s = true) (hstat : (Cond.static y).before args s = true) (hinit : (Cond.initialized y.cls).before args s = true)
    (hcode : (Cond.codeWith y bytes maxL ret hh).before args s = true) (hy : y.cls ≠ "java/lang/invoke/MethodHandle" ∧ y.cls ≠ "java/lang/invoke/VarHandle")
    {W9 : Nat} {Pre : Pt → Array Value → Prop} {Post : Pt → Array Value → Option Value → Pt → Prop} (hK : Back l R p e below s args y 3 W9 Pre Post)
    {g : JFrame} (hg : g.method = m) (hsize : g.locals.size = c.maxLocals) {argsL rest : List Value} (hlen : ∀ sig, parseMethodDescriptor y.desc = some sig → argsL.length = sig.parameters.length)
    (hstack : g.stack = argsL.reverse ++ rest) (hW : 2 * g.monitorRoom + (rest.map fun v => v.category).sum ≤ W9) (hdg : decode c.code g.pc = .ok (.invokestatic index, 3))
    (hpre : ∀ vm₁, s.WarmedH vm₁ → Pre ⟨T.setVm vm₁, locs, cells, slots⟩ argsL.toArray) :
    ∃ (v : Option Value) (vm₁ : Vm) (B : Pt), s.WarmedH vm₁ ∧ Stand p l e R s m args below meth c B.U B.locs B.cells B.slots ∧ Post ⟨T.setVm vm₁, locs, cells, slots⟩ argsL.toArray v B ∧
      ∀ target, Steps p.tables e below (B.U.setTop { g with pc := g.pc + 3, stack := v.toList ++ rest }) target → Steps p.tables e below (T.setTop g) target := by
  obtain ⟨mk, methM, cM, hnamed, hmethM, -, -, -, -, -, -, hsigM⟩ := Cond.codeWith_spec hcode
  have hstatic : methM.isStatic = true := Cond.static_spec hnamed hmethM hstat
  obtain ⟨kP, hkP, -⟩ := className_of_methodNamed hnamed
  have hinitP : kP.init = .initialized := Cond.initialized_spec (findClass_of_methodNamed hnamed) hkP hinit
  obtain ⟨vm₁, X₁, hstep₁⟩ := X.invokestatic hexec hown hlink hnamed hmethM hstatic hkP hinitP hy (g := g) hg (argsL := argsL) (rest := rest) (hlen _ hsigM) hstack hdg
  obtain ⟨v, B, X', hpost, hsteps⟩ := hK m meth c ⟨T.setVm vm₁, locs, cells, slots⟩ { g with stack := rest } (.invokestatic index) mk argsL.toArray X₁ hg hsize hdg hW (X₁.named hnamed) (hpre vm₁ X₁.warmed)
  exact ⟨v, vm₁, B, X₁.warmed, X', hpost, fun target h => hstep₁ _ fun acts => by rw [doInvoke_state]; exact hsteps.trans h⟩
theorem vx_runSW {y : MethodName} {bytes cc : ByteArray} {maxL nL mc ms n index : Nat} {ret : Option FieldType} {hh : List (Nat × Nat × Nat × Nat)} {ws : List Cond} {rm : Room} {Pc : Array Value → State → Prop} {Qc : Array Value → State → Outcome → State → Prop} {free : Addr → Prop} {Ts : List Cond} {own : String} {As rest : List Value} {g : JFrame}
    (S : CallFix p m c cc nL s args Ts own) (hM : Met l y ws rm Pc Qc mc ms free) (cw : vx_CSW R s args own index y bytes maxL ret hh ws rm mc ms n) (hp : PreS s H Pc As)
    (hg : g.method = m) (hn : As.length = n) (hsize : g.locals.size = nL) (hstack : g.stack = As.reverse ++ rest) (hW : 2 * g.monitorRoom + (rest.map fun v => v.category).sum ≤ 8) (hdg : decode cc g.pc = .ok (.invokestatic index, 3)) (hf : cells + mc ≤ R.cells ∧ slots + ms ≤ R.slots) :
    va_Run p l e R s m args below meth c H locs cells slots mc ms g rest (Qc As.toArray) (free) := by
  obtain ⟨⟨hrc, hrs, hfr, hlo, hws, hcw⟩, hcode, hini, hy, hlen, hl, hstt⟩ := cw
  have hK : Back l R p e below s args y 3 8 (PreOf R mc ms Pc) (PostOf Qc mc ms free) := va_backW (hh := hh) (bytes := bytes) (maxL := maxL) (ret := ret) hM hp.1 hrc hrs hfr hlo hws hcw (fun a' U hW => word_at hW (Or.inl (by first | rfl | simp [Cond.onTables, Cond.keeps, Cond.steady])) hini)
  obtain ⟨hx, hb, hml, ho, -⟩ := S
  intro T hT X
  obtain ⟨v, vm₁, ⟨U', l2, c2, s2⟩, hW₁, X', ⟨g', mk, t, L, e1, e2, hq, h1, hL, h2, h3⟩, st⟩ := vx_callSW X hx (hh := hh) (bytes := bytes) (maxL := maxL) (ret := ret) ho hl hstt hini hcode hy hK hg (hsize.trans hml.symm) (argsL := As) (rest := rest) (fun sig h => hn.trans (hlen sig h)) hstack hW (by rw [hb]; exact hdg)
    (fun vm₁ hW₁ => ⟨hf.1, hf.2, hp.2 (T.setVm vm₁) hT hW₁⟩)
  dsimp only [Pt.U, Pt.locs, Pt.cells, Pt.slots] at X' e1 e2 h1 h2 h3 st
  subst h1; subst h2; subst h3
  exact ⟨v, (T.setVm vm₁).calling g' mk As.toArray, t, U', L, hT, X', hL, e1, e2, hq, st⟩
/-- not caught here, past rows that name other classes: it goes on to the caller -/
theorem vx_outP {p : Program} {l : Launch} {e : Env} {R : Room} {s : State} {m : MethodId} {args : Array Value} {below : List Frame} {meth : Method} {c : Code} {H : Heap} {locs : List Loc} {cells slots : Nat} {free : Addr → Prop} {ls : Array Slot} {rest : List Value} {Qc : Array Value → State → Outcome → State → Prop} {XC : String → State → State → Prop}
    {pc : Nat} {own E : String} {ce : Cell} {q : Addr} {mc ms : Nat} (hown : s.vm.findClass own = some m.cls) (hlocks : meth.locks = false)
    (hpass : ∀ z ∈ c.exceptionTable.toList, covers z pc = false ∨ (z.catchType ≠ 0 ∧ ∃ nm : String, (Cond.classLink own z.catchType nm).before args s = true ∧ va_Nc E nm s)) (hcell : H[q]? = some ce) (hv : ce.vm = .none) (hcl : s.vm.findClass E = some ce.cls)
    (hx : ∀ t : State, t.heap = H → s.vm.Alike t.vm → XC E s t) (hf : ∀ z ∈ locs, free z.base) (hc : cells ≤ mc) (hs : slots ≤ ms) :
    vx_W p l e R s m args below meth c H locs cells slots (vx_MQ below Qc XC args s mc ms free) (F0 m pc ls rest) q := by
  intro T hT X
  have hpl : e.platform.magicAccessors = ({} : Platform).magicAccessors := by rw [X.admits.platform]
  obtain ⟨vm', hW', X', st⟩ := X.outThrough hlocks q (g := F0 m pc ls rest) rfl rfl rfl (cell := ce) (by rw [hT]; exact hcell) (by rw [hv]; rfl)
    (by obtain ⟨k9, h9, -⟩ := Vm.findClass_spec hcl; exact ⟨k9, h9⟩) (fun z hz => by
      rcases hpass z hz with h | ⟨hz0, nm, hl1, hn1⟩
      · exact Or.inl h
      · obtain ⟨c6, hc6, hcl6⟩ := Cond.classLink_spec hown hl1 e.platform hpl
        obtain ⟨a8, b8, h1, h2, h3⟩ := hn1
        cases Option.some.inj (h1.symm.trans hcl)
        cases Option.some.inj (h2.symm.trans hc6)
        exact Or.inr ⟨hz0, _, hcl6, h3⟩)
  obtain ⟨g₀, hfr⟩ := X'.frames_eq
  have hcell9 : ((T.setVm vm').setFrames (.throwing q :: below)).heap[q]? = some ce := by
    show T.heap[q]? = some ce
    rw [hT]; exact hcell
  have hend : Ended ((T.setVm vm').setFrames (.throwing q :: below)) below (.threw q) := State.frames_setFrames _ (State.cur_lt_of_frames hfr)
  refine ⟨(T.setVm vm').setFrames (.throwing q :: below), ?_, .threw q, X'.here.running, hend, Or.inr ⟨q, rfl, E, ce, locs, hx _ hT (X'.ends _).1.alike, hcell9, hv, hcl, (X'.ends _).1, (X'.ends _).2.mono hc hs, hf⟩⟩
  rw [X.pushThrowing_eq]
  exact st
/-- a thing of a world lies in the heap -/
theorem vx_lt {D : va_G} {cl : List vw_C} {ws : va_W} {H1 : Heap} (h : va_P D cl ws H1) {k : Nat} {q : Nat × va_E} (hk : ws[k]? = some q) : q.1 < H1.size := (h k q hk).lt
end VXS
/-! ===== END ===== -/
/-! ===== BEGIN methods with a table of their own: called by a name, returning or throwing ===== -/
section VXH
/-! vx_backW, vx_callVX, vx_callSX, vx_callVW, vx_runVW, vx_runVX, vx_runSX, vx_ofWH follow the same proofs as their sisters above (Free/Laws.lean, Shelf42/LK1.lean); vx_outP calls Shelf42/NT130.lean (outThrough). -/
section
variable {l : Launch} {R : Room} {p : Program} {e : Env} {below : List Frame} {s : State} {sargs : Array Value} {y : MethodName} {len W9 : Nat}
theorem vx_backW {ws : List Cond} {rm : Room} {Pc : Array Value → State → Prop} {Qc : Array Value → State → Outcome → State → Prop} {XC : String → State → State → Prop} {mc ms : Nat} {free : Addr → Prop} {bytes : ByteArray} {maxL : Nat} {ret : Option FieldType} {hh : List (Nat × Nat × Nat × Nat)}
    (hM : vx_Met l y ws rm Pc Qc XC mc ms free) (hblind : FrameBlind Pc) (hrc : rm.cells = mc) (hrs : rm.slots = ms)
    (hframes : rm.frames + 1 ≤ R.frames) (hlocals : W9 + (maxL + 11) + rm.locals ≤ R.locals)
    (hws : ∀ w ∈ ws, ∀ a' U, s.WarmedH U.vm → w.before a' U = true) (hcode : Cond.codeWith y bytes maxL ret hh ∈ ws) (hinit : ∀ a' U, s.WarmedH U.vm → (Cond.initialized y.cls).before a' U = true) :
    vx_Back l R p e below s sargs y len W9 (PreOf R mc ms Pc) (PostOf Qc mc ms free) (vx_Post XC mc ms free) := by
  intro m meth c A g ig mk a X hg hsize hdg hW hn hp
  have h1 : (headSpec ws rm).pre.before a A.U = true := atoms_intro fun w hw => hws w hw _ _ X.warmed
  have h2 : (Cond.codeWith y bytes maxL ret hh).before a A.U = true := hws _ hcode _ _ X.warmed
  have h3 : (Cond.initialized y.cls).before a A.U = true := hinit _ _ X.warmed
  have h4 : A.cells + (headSpec ws rm).room.cells ≤ R.cells := by rw [show (headSpec ws rm).room.cells = mc from hrc]; exact hp.1
  have h5 : A.slots + (headSpec ws rm).room.slots ≤ R.slots := by rw [show (headSpec ws rm).room.slots = ms from hrs]; exact hp.2.1
  have hPc : Pc a (A.U.calling g mk a) := hblind _ _ _ _ hp.2.2
  obtain ⟨U, Ls, c0, s0⟩ := A
  dsimp only [Pt.U, Pt.locs, Pt.cells, Pt.slots] at h1 h2 h3 h4 h5 X hn hPc ⊢
  obtain ⟨m9, methY, cY, hn9, hmY, hcY, -, hlY, -⟩ := Cond.codeWith_spec h2
  cases Option.some.inj (hn9.symm.trans hn)
  obtain ⟨kY, hkY, -⟩ := className_of_methodNamed hn
  have hinitY : kY.init = .initialized := Cond.initialized_spec (findClass_of_methodNamed hn) hkY h3
  have h : At U g.method c below := by rw [hg]; exact X.here
  have hlocals9 : W9 + (maxL + 11) + (headSpec ws rm).room.locals ≤ R.locals := hlocals
  have happ : (headSpec ws rm).appliesLoose y e.platform (U.calling g mk a) = true :=
    Spec.appliesLoose_calling (g := g) h hdg hn hkY hinitY
      (X.room_calling (g := g) (R' := (headSpec ws rm).room) hsize hmY hcY hframes (by rw [hlY]; omega) h4 h5) h1
  obtain ⟨mid, hmid⟩ := h.above
  have hfr : (U.setTop g).frames = (.java g :: mid) ++ below := by rw [State.frames_setTop' g h.top, hmid]; rfl
  obtain ⟨o, s₂, hsteps, -, hend, hq⟩ := Steps.callFree hM p X.admits X.cas X.clock (acts := []) hfr happ hPc trivial
  have hq' : vx_Q Qc XC mc ms free a (U.calling g mk a) o s₂ := hq
  rw [State.frames_setTop' g h.top] at hend
  obtain ⟨g₀, hg0⟩ := Option.isSome_iff_exists.mp h.top
  obtain ⟨r, hr⟩ := State.topJava?_eq_some.mp hg0
  have hr' : (({ U with heap := s₂.heap, slotsUsed := s₂.slotsUsed } : State).setVm s₂.vm).frames = .java g₀ :: r := hr
  rcases hq' with ⟨hqc, L, hfe, hL⟩ | ⟨q, rfl, E, ce, L, hx, hce, hcv, hcl, hW₂, hsm, hL⟩
  · obtain ⟨⟨v, rfl⟩, hW₂, e2, q2, q3, q4, q5, q6⟩ := id hfe
    have e3 : s₂ = ({ (U.calling g mk a).setFrames s₂.frames with heap := s₂.heap, slotsUsed := s₂.slotsUsed } : State).setVm s₂.vm := by
      have : s₂ = ({ s₂ with vm := (U.calling g mk a).vm } : State).setVm s₂.vm := rfl
      rw [e2] at this
      exact this
    obtain ⟨c₂, i₂, len₂, hc₂, hd₂, hf₂⟩ := hend
    have hW' : U.WarmedH s₂.vm := hW₂
    have hcc : c₂ = c := by
      have h1 : s₂.code? g.method = U.code? g.method := by
        rw [State.code?_eq, State.code?_eq, hW'.alike.method?]
      exact Option.some.inj (hc₂.symm.trans (h1.trans h.code))
    subst hcc
    have hlen : len₂ = len := by rw [hdg] at hd₂; cases hd₂; rfl
    subst hlen
    have hs₂ : s₂ = (({ U with heap := s₂.heap, slotsUsed := s₂.slotsUsed } : State).setVm s₂.vm).setTop { g with pc := g.pc + len₂, stack := v.toList ++ g.stack } := by
      refine e3.trans ?_
      rw [hf₂, State.calling_eq h.top, State.setFrames_setFrames, State.setTop_of_frames _ hr', hr]
      rfl
    have hsame : U.sameButNew ({ U with heap := s₂.heap, slotsUsed := s₂.slotsUsed } : State) L mc ms := by
      refine ⟨?_, q2, q3, q4, q5, q6⟩
      obtain ⟨t, ht, -⟩ := State.frames_cons hr
      show ({ U with heap := s₂.heap, slotsUsed := s₂.slotsUsed } : State) = { U.setFrames U.frames with heap := s₂.heap, slotsUsed := s₂.slotsUsed }
      rw [State.setFrames_self ht]
    subst hg
    refine Or.inl ⟨v, ⟨(({ U with heap := s₂.heap, slotsUsed := s₂.slotsUsed } : State).setVm s₂.vm), Ls ++ L, c0 + mc, s0 + ms⟩,
      ⟨X.admits, X.cas, X.clock, X.frames, X.room, X.hears, X.method, X.code, (X.here.setHeapUsed s₂.heap s₂.slotsUsed).setVm hW'.alike, X.tail, State.WarmedH.trans X.warmed hW', X.limits, X.bytes, X.same.trans (hsame.setVm s.vm)⟩,
      ⟨g, mk, s₂, L, rfl, rfl, hqc, rfl, hL, rfl, rfl⟩, ?_⟩
    show Steps p.tables e below _ ((({ U with heap := s₂.heap, slotsUsed := s₂.slotsUsed } : State).setVm s₂.vm).setTop { g with pc := g.pc + len₂, stack := v.toList ++ g.stack })
    rw [← hs₂]
    exact hsteps
  · obtain ⟨e2, q2, q3, q4, q5, q6⟩ := id hsm
    have e3 : s₂ = ({ (U.calling g mk a).setFrames s₂.frames with heap := s₂.heap, slotsUsed := s₂.slotsUsed } : State).setVm s₂.vm := by
      have : s₂ = ({ s₂ with vm := (U.calling g mk a).vm } : State).setVm s₂.vm := rfl
      rw [e2] at this
      exact this
    have hf₂ : s₂.frames = .throwing q :: .java g :: U.frames.tail := hend
    have hW' : U.WarmedH s₂.vm := hW₂
    have hs₂ : s₂ = ((({ U with heap := s₂.heap, slotsUsed := s₂.slotsUsed } : State).setVm s₂.vm).setTop g).pushFrame (.throwing q) := by
      refine e3.trans ?_
      rw [hf₂, State.calling_eq h.top, State.setFrames_setFrames, State.pushFrame, State.frames_setTop _ hr', State.setTop_of_frames _ hr', State.setFrames_setFrames, hr]
      rfl
    have hsame : U.sameButNew ({ U with heap := s₂.heap, slotsUsed := s₂.slotsUsed } : State) L mc ms := by
      refine ⟨?_, q2, q3, q4, q5, q6⟩
      obtain ⟨t, ht, -⟩ := State.frames_cons hr
      show ({ U with heap := s₂.heap, slotsUsed := s₂.slotsUsed } : State) = { U.setFrames U.frames with heap := s₂.heap, slotsUsed := s₂.slotsUsed }
      rw [State.setFrames_self ht]
    subst hg
    refine Or.inr ⟨q, ⟨(({ U with heap := s₂.heap, slotsUsed := s₂.slotsUsed } : State).setVm s₂.vm), Ls ++ L, c0 + mc, s0 + ms⟩,
      ⟨X.admits, X.cas, X.clock, X.frames, X.room, X.hears, X.method, X.code, (X.here.setHeapUsed s₂.heap s₂.slotsUsed).setVm hW'.alike, X.tail, State.WarmedH.trans X.warmed hW', X.limits, X.bytes, X.same.trans (hsame.setVm s.vm)⟩,
      ⟨g, mk, s₂, L, E, ce, rfl, rfl, hx, hce, hcv, hcl, rfl, hL, rfl, rfl⟩, ?_⟩
    show Steps p.tables e below _ (((({ U with heap := s₂.heap, slotsUsed := s₂.slotsUsed } : State).setVm s₂.vm).setTop g).pushFrame (.throwing q))
    rw [← hs₂]
    exact hsteps
end
variable {p : Program} {l : Launch} {e : Env} {R : Room} {s : State} {m : MethodId} {args : Array Value} {below : List Frame} {meth : Method} {c : Code} {T : State} {H : Heap} {locs : List Loc} {cells slots : Nat}
theorem vx_callVX (X : Stand p l e R s m args below meth c T locs cells slots) (hexec : p.tables.exec = Jvm.exec) {own C : String} {index : Nat} {y : MethodName} {bytes : ByteArray} {maxL : Nat} {ret : Option FieldType} {hh : List (Nat × Nat × Nat × Nat)}
    (hown : s.vm.findClass own = some m.cls) (hlink : (Cond.methodLink own index y).before args s = true) (hinst : (Cond.instanceMethod y).before args s = true) (hsel : (Cond.selects C y y).before args s = true)
    (hcode : (Cond.codeWith y bytes maxL ret hh).before args s = true) (hy : y.cls ≠ "java/lang/invoke/MethodHandle" ∧ y.cls ≠ "java/lang/invoke/VarHandle")
    {W9 : Nat} {Pre : Pt → Array Value → Prop} {Post : Pt → Array Value → Option Value → Pt → Prop} {PostX : Pt → Array Value → Addr → Pt → Prop} (hK : vx_Back l R p e below s args y 3 W9 Pre Post PostX)
    {b : Addr} {cellB : Cell} (hcell : T.heap[b]? = some cellB) (hobj : cellB.vm.isStatics = false) (hcls : s.vm.findClass C = some cellB.cls)
    {g : JFrame} (hg : g.method = m) (hsize : g.locals.size = c.maxLocals) {argsL rest : List Value} (hlen : ∀ sig, parseMethodDescriptor y.desc = some sig → argsL.length = sig.parameters.length)
    (hstack : g.stack = argsL.reverse ++ .ref b :: rest) (hW : 2 * g.monitorRoom + (rest.map fun v => v.category).sum ≤ W9) (hdg : decode c.code g.pc = .ok (.invokevirtual index, 3))
    (hpre : ∀ vm₁, s.WarmedH vm₁ → Pre ⟨T.setVm vm₁, locs, cells, slots⟩ (Value.ref b :: argsL).toArray) :
    (∃ (v : Option Value) (vm₁ : Vm) (B : Pt), s.WarmedH vm₁ ∧ Stand p l e R s m args below meth c B.U B.locs B.cells B.slots ∧ Post ⟨T.setVm vm₁, locs, cells, slots⟩ (Value.ref b :: argsL).toArray v B ∧
      ∀ target, Steps p.tables e below (B.U.setTop { g with pc := g.pc + 3, stack := v.toList ++ rest }) target → Steps p.tables e below (T.setTop g) target) ∨
    (∃ (q : Addr) (vm₁ : Vm) (B : Pt), s.WarmedH vm₁ ∧ Stand p l e R s m args below meth c B.U B.locs B.cells B.slots ∧ PostX ⟨T.setVm vm₁, locs, cells, slots⟩ (Value.ref b :: argsL).toArray q B ∧
      Steps p.tables e below (T.setTop g) ((B.U.setTop { g with stack := rest }).pushFrame (.throwing q))) := by
  obtain ⟨mk, methM, hnamed, hmethM, hstM, habM⟩ := Cond.instanceMethod_spec hinst
  obtain ⟨m8, methM', cM, hn8, hmethM', -, -, -, -, -, -, hsigM⟩ := Cond.codeWith_spec hcode
  cases Option.some.inj (hn8.symm.trans hnamed)
  cases hmethM.symm.trans hmethM'
  obtain ⟨c2, r2, m2, q1, q2, q3, q4, kP, hkP, hkPi⟩ := Cond.selects_spec hsel
  cases hcls.symm.trans q1
  cases (State.methodFound?_of_named hnamed hy).symm.trans q2
  cases hnamed.symm.trans q3
  have hselP : selectMethod e.platform s.vm cellB.cls mk = .method mk := by rw [Launch.admits_selectMethod X.admits]; exact q4
  obtain ⟨vm₁, X₁, hstep₁⟩ := X.invokevirtual hexec hown hlink hnamed hmethM hstM hkP hkPi hy (a := b) (cell := cellB) hcell
    (fun z h => by rw [h] at hobj; cases hobj) hselP hmethM habM hkP hkPi (g := g) hg (argsL := argsL) (rest := rest) (hlen _ hsigM) hstack hdg
  rcases hK m meth c ⟨T.setVm vm₁, locs, cells, slots⟩ { g with stack := rest } (.invokevirtual index) mk (Value.ref b :: argsL).toArray X₁ hg hsize hdg hW (X₁.named hnamed) (hpre vm₁ X₁.warmed) with ⟨v, B, X', hpost, hsteps⟩ | ⟨q, B, X', hpost, hsteps⟩
  · exact Or.inl ⟨v, vm₁, B, X₁.warmed, X', hpost, fun target h => hstep₁ _ fun acts => by rw [doInvoke_state]; exact hsteps.trans h⟩
  · exact Or.inr ⟨q, vm₁, B, X₁.warmed, X', hpost, hstep₁ _ fun acts => by rw [doInvoke_state]; exact hsteps⟩
theorem vx_callSX (X : Stand p l e R s m args below meth c T locs cells slots) (hexec : p.tables.exec = Jvm.exec) {own : String} {index : Nat} {y : MethodName} {bytes : ByteArray} {maxL : Nat} {ret : Option FieldType} {hh : List (Nat × Nat × Nat × Nat)}
    (hown : s.vm.findClass own = some m.cls) (hlink : (Cond.methodLink own index y).before args s = true) (hstat : (Cond.static y).before args s = true) (hinit : (Cond.initialized y.cls).before args s = true)
    (hcode : (Cond.codeWith y bytes maxL ret hh).before args s = true) (hy : y.cls ≠ "java/lang/invoke/MethodHandle" ∧ y.cls ≠ "java/lang/invoke/VarHandle")
    {W9 : Nat} {Pre : Pt → Array Value → Prop} {Post : Pt → Array Value → Option Value → Pt → Prop} {PostX : Pt → Array Value → Addr → Pt → Prop} (hK : vx_Back l R p e below s args y 3 W9 Pre Post PostX)
    {g : JFrame} (hg : g.method = m) (hsize : g.locals.size = c.maxLocals) {argsL rest : List Value} (hlen : ∀ sig, parseMethodDescriptor y.desc = some sig → argsL.length = sig.parameters.length)
    (hstack : g.stack = argsL.reverse ++ rest) (hW : 2 * g.monitorRoom + (rest.map fun v => v.category).sum ≤ W9) (hdg : decode c.code g.pc = .ok (.invokestatic index, 3))
    (hpre : ∀ vm₁, s.WarmedH vm₁ → Pre ⟨T.setVm vm₁, locs, cells, slots⟩ argsL.toArray) :
    (∃ (v : Option Value) (vm₁ : Vm) (B : Pt), s.WarmedH vm₁ ∧ Stand p l e R s m args below meth c B.U B.locs B.cells B.slots ∧ Post ⟨T.setVm vm₁, locs, cells, slots⟩ argsL.toArray v B ∧
      ∀ target, Steps p.tables e below (B.U.setTop { g with pc := g.pc + 3, stack := v.toList ++ rest }) target → Steps p.tables e below (T.setTop g) target) ∨
    (∃ (q : Addr) (vm₁ : Vm) (B : Pt), s.WarmedH vm₁ ∧ Stand p l e R s m args below meth c B.U B.locs B.cells B.slots ∧ PostX ⟨T.setVm vm₁, locs, cells, slots⟩ argsL.toArray q B ∧
      Steps p.tables e below (T.setTop g) ((B.U.setTop { g with stack := rest }).pushFrame (.throwing q))) := by
  obtain ⟨mk, methM, cM, hnamed, hmethM, -, -, -, -, -, -, hsigM⟩ := Cond.codeWith_spec hcode
  have hstatic : methM.isStatic = true := Cond.static_spec hnamed hmethM hstat
  obtain ⟨kP, hkP, -⟩ := className_of_methodNamed hnamed
  have hinitP : kP.init = .initialized := Cond.initialized_spec (findClass_of_methodNamed hnamed) hkP hinit
  obtain ⟨vm₁, X₁, hstep₁⟩ := X.invokestatic hexec hown hlink hnamed hmethM hstatic hkP hinitP hy (g := g) hg (argsL := argsL) (rest := rest) (hlen _ hsigM) hstack hdg
  rcases hK m meth c ⟨T.setVm vm₁, locs, cells, slots⟩ { g with stack := rest } (.invokestatic index) mk argsL.toArray X₁ hg hsize hdg hW (X₁.named hnamed) (hpre vm₁ X₁.warmed) with ⟨v, B, X', hpost, hsteps⟩ | ⟨q, B, X', hpost, hsteps⟩
  · exact Or.inl ⟨v, vm₁, B, X₁.warmed, X', hpost, fun target h => hstep₁ _ fun acts => by rw [doInvoke_state]; exact hsteps.trans h⟩
  · exact Or.inr ⟨q, vm₁, B, X₁.warmed, X', hpost, hstep₁ _ fun acts => by rw [doInvoke_state]; exact hsteps⟩
theorem vx_callVW (X : Stand p l e R s m args below meth c T locs cells slots) (hexec : p.tables.exec = Jvm.exec) {own C : String} {index : Nat} {y : MethodName} {bytes : ByteArray} {maxL : Nat} {ret : Option FieldType} {hh : List (Nat × Nat × Nat × Nat)}
    (hown : s.vm.findClass own = some m.cls) (hlink : (Cond.methodLink own index y).before args s = true) (hinst : (Cond.instanceMethod y).before args s = true) (hsel : (Cond.selects C y y).before args s = true)
    (hcode : (Cond.codeWith y bytes maxL ret hh).before args s = true) (hy : y.cls ≠ "java/lang/invoke/MethodHandle" ∧ y.cls ≠ "java/lang/invoke/VarHandle")
    {W9 : Nat} {Pre : Pt → Array Value → Prop} {Post : Pt → Array Value → Option Value → Pt → Prop} (hK : Back l R p e below s args y 3 W9 Pre Post)
    {b : Addr} {cellB : Cell} (hcell : T.heap[b]? = some cellB) (hobj : cellB.vm.isStatics = false) (hcls : s.vm.findClass C = some cellB.cls)
    {g : JFrame} (hg : g.method = m) (hsize : g.locals.size = c.maxLocals) {argsL rest : List Value} (hlen : ∀ sig, parseMethodDescriptor y.desc = some sig → argsL.length = sig.parameters.length)
    (hstack : g.stack = argsL.reverse ++ .ref b :: rest) (hW : 2 * g.monitorRoom + (rest.map fun v => v.category).sum ≤ W9) (hdg : decode c.code g.pc = .ok (.invokevirtual index, 3))
    (hpre : ∀ vm₁, s.WarmedH vm₁ → Pre ⟨T.setVm vm₁, locs, cells, slots⟩ (Value.ref b :: argsL).toArray) :
    ∃ (v : Option Value) (vm₁ : Vm) (B : Pt), s.WarmedH vm₁ ∧ Stand p l e R s m args below meth c B.U B.locs B.cells B.slots ∧ Post ⟨T.setVm vm₁, locs, cells, slots⟩ (Value.ref b :: argsL).toArray v B ∧
      ∀ target, Steps p.tables e below (B.U.setTop { g with pc := g.pc + 3, stack := v.toList ++ rest }) target → Steps p.tables e below (T.setTop g) target := by
  obtain ⟨mk, methM, hnamed, hmethM, hstM, habM⟩ := Cond.instanceMethod_spec hinst
  obtain ⟨m8, methM', cM, hn8, hmethM', -, -, -, -, -, -, hsigM⟩ := Cond.codeWith_spec hcode
  cases Option.some.inj (hn8.symm.trans hnamed)
  cases hmethM.symm.trans hmethM'
  obtain ⟨c2, r2, m2, q1, q2, q3, q4, kP, hkP, hkPi⟩ := Cond.selects_spec hsel
  cases hcls.symm.trans q1
  cases (State.methodFound?_of_named hnamed hy).symm.trans q2
  cases hnamed.symm.trans q3
  have hselP : selectMethod e.platform s.vm cellB.cls mk = .method mk := by rw [Launch.admits_selectMethod X.admits]; exact q4
  obtain ⟨vm₁, X₁, hstep₁⟩ := X.invokevirtual hexec hown hlink hnamed hmethM hstM hkP hkPi hy (a := b) (cell := cellB) hcell
    (fun z h => by rw [h] at hobj; cases hobj) hselP hmethM habM hkP hkPi (g := g) hg (argsL := argsL) (rest := rest) (hlen _ hsigM) hstack hdg
  obtain ⟨v, B, X', hpost, hsteps⟩ := hK m meth c ⟨T.setVm vm₁, locs, cells, slots⟩ { g with stack := rest } (.invokevirtual index) mk (Value.ref b :: argsL).toArray X₁ hg hsize hdg hW (X₁.named hnamed) (hpre vm₁ X₁.warmed)
  exact ⟨v, vm₁, B, X₁.warmed, X', hpost, fun target h => hstep₁ _ fun acts => by rw [doInvoke_state]; exact hsteps.trans h⟩
abbrev vx_CVW (R : Room) (s : State) (args : Array Value) (own C : String) (index : Nat) (y : MethodName) (bytes : ByteArray) (maxL : Nat) (ret : Option FieldType) (hh : List (Nat × Nat × Nat × Nat)) (ws : List Cond) (rm : Room) (mc ms n : Nat) : Prop :=
  (rm.cells = mc ∧ rm.slots = ms ∧ rm.frames + 1 ≤ R.frames ∧ 8 + (maxL + 11) + rm.locals ≤ R.locals ∧ (∀ w ∈ ws, ∀ (a' : Array Value) (U : State), s.WarmedH U.vm → w.before a' U = true) ∧ Cond.codeWith y bytes maxL ret hh ∈ ws) ∧
  (Cond.codeWith y bytes maxL ret hh).before args s = true ∧ (Cond.initialized y.cls).before args s = true ∧ (y.cls ≠ "java/lang/invoke/MethodHandle" ∧ y.cls ≠ "java/lang/invoke/VarHandle") ∧
  (∀ sig, parseMethodDescriptor y.desc = some sig → n = sig.parameters.length) ∧ (Cond.methodLink own index y).before args s = true ∧ (Cond.instanceMethod y).before args s = true ∧ (Cond.selects C y y).before args s = true
theorem vx_cwVW {own C : String} {index maxL mc ms : Nat} {y : MethodName} {bytes : ByteArray} {ret : Option FieldType} {hh : List (Nat × Nat × Nat × Nat)} {Ts ws ws' : List Cond} {rm : Room} (n : Nat) (ht : ∀ w ∈ Ts, w.before args s = true) (hT : GoodIn Ts (wsV own index C y ws)) (hw : ws = Cond.codeWith y bytes maxL ret hh :: ws') (hrc : rm.cells = mc) (hrs : rm.slots = ms)
    (hd : y.cls = C ∧ y.cls ≠ "java/lang/invoke/MethodHandle" ∧ y.cls ≠ "java/lang/invoke/VarHandle" ∧ (parseMethodDescriptor y.desc).map (fun d => d.parameters.length) = some n) (hR : rm.frames + 1 ≤ R.frames ∧ 8 + (maxL + 11) + rm.locals ≤ R.locals) :
    vx_CVW R s args own C index y bytes maxL ret hh ws rm mc ms n := by
  obtain ⟨hC, hd⟩ := hd
  subst hC
  have ok : ∀ w ∈ wsV own index y.cls y ws, w.before args s = true := fun w h => ht w (hT w h).1
  have hG : GoodIn Ts ws := fun w h => hT w (by unfold wsV; exact List.mem_append_right _ h)
  have hc : Cond.codeWith y bytes maxL ret hh ∈ ws := by rw [hw]; exact List.mem_cons_self
  refine ⟨⟨hrc, hrs, hR.1, hR.2, pay_in ht hG, hc⟩, ht _ (hG _ hc).1, ok _ (by simp [wsV]), ⟨hd.1, hd.2.1⟩, fun sig h => ?_, ok _ (by simp [wsV]), ok _ (by simp [wsV]), ok _ (by simp [wsV])⟩
  have h2 := hd.2.2
  rw [h] at h2
  exact (Option.some.inj h2).symm
theorem vx_runVW {y : MethodName} {bytes cc : ByteArray} {maxL nL mc ms n index : Nat} {ret : Option FieldType} {hh : List (Nat × Nat × Nat × Nat)} {ws : List Cond} {rm : Room} {Pc : Array Value → State → Prop} {Qc : Array Value → State → Outcome → State → Prop} {free : Addr → Prop} {Ts : List Cond} {own C : String} {b : Addr} {As rest : List Value} {g : JFrame}
    (S : CallFix p m c cc nL s args Ts own) (hM : Met l y ws rm Pc Qc mc ms free) (cw : vx_CVW R s args own C index y bytes maxL ret hh ws rm mc ms n) (hp : PreV s H C b Pc As)
    (hg : g.method = m) (hn : As.length = n) (hsize : g.locals.size = nL) (hstack : g.stack = As.reverse ++ .ref b :: rest) (hW : 2 * g.monitorRoom + (rest.map fun v => v.category).sum ≤ 8) (hdg : decode cc g.pc = .ok (.invokevirtual index, 3)) (hf : cells + mc ≤ R.cells ∧ slots + ms ≤ R.slots) :
    va_Run p l e R s m args below meth c H locs cells slots mc ms g rest (Qc (Value.ref b :: As).toArray) free := by
  obtain ⟨⟨hrc, hrs, hfr, hlo, hws, hcw⟩, hcode, hini, hy, hlen, hl, hin, hse⟩ := cw
  have hK : Back l R p e below s args y 3 8 (PreOf R mc ms Pc) (PostOf Qc mc ms free) := va_backW (hh := hh) (bytes := bytes) (maxL := maxL) (ret := ret) hM hp.1 hrc hrs hfr hlo hws hcw (fun a' U hW => word_at hW (Or.inl (by first | rfl | simp [Cond.onTables, Cond.keeps, Cond.steady])) hini)
  obtain ⟨hx, hb, hml, ho, -⟩ := S
  obtain ⟨-, ⟨cellB, hcB, hoB, hclB⟩, hPc⟩ := hp
  intro T hT X
  obtain ⟨v, vm₁, ⟨U', l2, c2, s2⟩, hW₁, X', ⟨g', mk, t, L, e1, e2, hq, h1, hL, h2, h3⟩, st⟩ := vx_callVW X hx (C := C) (hh := hh) (bytes := bytes) (maxL := maxL) (ret := ret) ho hl hin hse hcode hy hK (by rw [hT]; exact hcB) hoB hclB hg (hsize.trans hml.symm) (argsL := As) (rest := rest) (fun sig h => hn.trans (hlen sig h)) hstack hW (by rw [hb]; exact hdg)
    (fun vm₁ hW₁ => ⟨hf.1, hf.2, hPc (T.setVm vm₁) hT hW₁⟩)
  dsimp only [Pt.U, Pt.locs, Pt.cells, Pt.slots] at X' e1 e2 h1 h2 h3 st
  subst h1; subst h2; subst h3
  exact ⟨v, (T.setVm vm₁).calling g' mk (Value.ref b :: As).toArray, t, U', L, hT, X', hL, e1, e2, hq, st⟩
section
variable {y : MethodName} {bytes cc : ByteArray} {maxL nL mc ms n index : Nat} {ret : Option FieldType} {ws : List Cond} {rm : Room} {Pc : Array Value → State → Prop} {Qc : Array Value → State → Outcome → State → Prop} {XC : String → State → State → Prop} {free : Addr → Prop} {Ts : List Cond} {own C : String} {b : Addr} {As rest : List Value} {g : JFrame}
theorem vx_runVX {hh : List (Nat × Nat × Nat × Nat)} (S : CallFix p m c cc nL s args Ts own) (hM : vx_Met l y ws rm Pc Qc XC mc ms free) (cw : vx_CVW R s args own C index y bytes maxL ret hh ws rm mc ms n) (hp : PreV s H C b Pc As)
    (hg : g.method = m) (hn : As.length = n) (hsize : g.locals.size = nL) (hstack : g.stack = As.reverse ++ .ref b :: rest) (hW : 2 * g.monitorRoom + (rest.map fun v => v.category).sum ≤ 8) (hdg : decode cc g.pc = .ok (.invokevirtual index, 3)) (hf : cells + mc ≤ R.cells ∧ slots + ms ≤ R.slots) :
    vx_Run p l e R s m args below meth c H locs cells slots mc ms g rest (Qc (Value.ref b :: As).toArray) XC free := by
  obtain ⟨⟨hrc, hrs, hfr, hlo, hws, hcw⟩, hcode, hini, hy, hlen, hl, hin, hse⟩ := cw
  have hK : vx_Back l R p e below s args y 3 8 (PreOf R mc ms Pc) (PostOf Qc mc ms free) (vx_Post XC mc ms free) := vx_backW (hh := hh) (bytes := bytes) (maxL := maxL) (ret := ret) hM hp.1 hrc hrs hfr hlo hws hcw (fun a' U hW => word_at hW (Or.inl (by first | rfl | simp [Cond.onTables, Cond.keeps, Cond.steady])) hini)
  obtain ⟨hx, hb, hml, ho, -⟩ := S
  obtain ⟨-, ⟨cellB, hcB, hoB, hclB⟩, hPc⟩ := hp
  intro T hT X
  rcases vx_callVX X hx (C := C) (hh := hh) (bytes := bytes) (maxL := maxL) (ret := ret) ho hl hin hse hcode hy hK (by rw [hT]; exact hcB) hoB hclB hg (hsize.trans hml.symm) (argsL := As) (rest := rest) (fun sig h => hn.trans (hlen sig h)) hstack hW (by rw [hb]; exact hdg)
    (fun vm₁ hW₁ => ⟨hf.1, hf.2, hPc (T.setVm vm₁) hT hW₁⟩) with ⟨v, vm₁, ⟨U', l2, c2, s2⟩, hW₁, X', ⟨g', mk, t, L, e1, e2, hq, h1, hL, h2, h3⟩, st⟩ | ⟨q, vm₁, ⟨U', l2, c2, s2⟩, hW₁, X', ⟨g', mk, t, L, E, ce, e1, e2, hq, hce, hcv, hcl, h1, hL, h2, h3⟩, st⟩
  · dsimp only [Pt.U, Pt.locs, Pt.cells, Pt.slots] at X' e1 e2 h1 h2 h3 st
    subst h1; subst h2; subst h3
    exact Or.inl ⟨v, (T.setVm vm₁).calling g' mk (Value.ref b :: As).toArray, t, U', L, hT, X', hL, e1, e2, hq, st⟩
  · dsimp only [Pt.U, Pt.locs, Pt.cells, Pt.slots] at X' e1 e2 h1 h2 h3 st hcl
    subst h1; subst h2; subst h3
    exact Or.inr ⟨q, (T.setVm vm₁).calling g' mk (Value.ref b :: As).toArray, t, U', L, E, ce, hT, X', hL, e1, e2, hq, hce, hcv, vx_cls hW₁ hcl, st⟩
theorem vx_runSX {hh : List (Nat × Nat × Nat × Nat)} (S : CallFix p m c cc nL s args Ts own) (hM : vx_Met l y ws rm Pc Qc XC mc ms free) (cw : vx_CSW R s args own index y bytes maxL ret hh ws rm mc ms n) (hp : PreS s H Pc As)
    (hg : g.method = m) (hn : As.length = n) (hsize : g.locals.size = nL) (hstack : g.stack = As.reverse ++ rest) (hW : 2 * g.monitorRoom + (rest.map fun v => v.category).sum ≤ 8) (hdg : decode cc g.pc = .ok (.invokestatic index, 3)) (hf : cells + mc ≤ R.cells ∧ slots + ms ≤ R.slots) :
    vx_Run p l e R s m args below meth c H locs cells slots mc ms g rest (Qc As.toArray) XC free := by
  obtain ⟨⟨hrc, hrs, hfr, hlo, hws, hcw⟩, hcode, hini, hy, hlen, hl, hstt⟩ := cw
  have hK : vx_Back l R p e below s args y 3 8 (PreOf R mc ms Pc) (PostOf Qc mc ms free) (vx_Post XC mc ms free) := vx_backW (hh := hh) (bytes := bytes) (maxL := maxL) (ret := ret) hM hp.1 hrc hrs hfr hlo hws hcw (fun a' U hW => word_at hW (Or.inl (by first | rfl | simp [Cond.onTables, Cond.keeps, Cond.steady])) hini)
  obtain ⟨hx, hb, hml, ho, -⟩ := S
  intro T hT X
  rcases vx_callSX X hx (hh := hh) (bytes := bytes) (maxL := maxL) (ret := ret) ho hl hstt hini hcode hy hK hg (hsize.trans hml.symm) (argsL := As) (rest := rest) (fun sig h => hn.trans (hlen sig h)) hstack hW (by rw [hb]; exact hdg)
    (fun vm₁ hW₁ => ⟨hf.1, hf.2, hp.2 (T.setVm vm₁) hT hW₁⟩) with ⟨v, vm₁, ⟨U', l2, c2, s2⟩, hW₁, X', ⟨g', mk, t, L, e1, e2, hq, h1, hL, h2, h3⟩, st⟩ | ⟨q, vm₁, ⟨U', l2, c2, s2⟩, hW₁, X', ⟨g', mk, t, L, E, ce, e1, e2, hq, hce, hcv, hcl, h1, hL, h2, h3⟩, st⟩
  · dsimp only [Pt.U, Pt.locs, Pt.cells, Pt.slots] at X' e1 e2 h1 h2 h3 st
    subst h1; subst h2; subst h3
    exact Or.inl ⟨v, (T.setVm vm₁).calling g' mk As.toArray, t, U', L, hT, X', hL, e1, e2, hq, st⟩
  · dsimp only [Pt.U, Pt.locs, Pt.cells, Pt.slots] at X' e1 e2 h1 h2 h3 st hcl
    subst h1; subst h2; subst h3
    exact Or.inr ⟨q, (T.setVm vm₁).calling g' mk As.toArray, t, U', L, E, ce, hT, X', hL, e1, e2, hq, hce, hcv, vx_cls hW₁ hcl, st⟩
end
end VXH
theorem vx_ofWH {l : Launch} {y : MethodName} {ws ws' : List Cond} {rm : Room} {Pc : Array Value → State → Prop} {Qc : Array Value → State → Outcome → State → Prop} {XC : String → State → State → Prop} {mc ms : Nat} {free : Addr → Prop} {cc : ByteArray} {maxL : Nat} {ret : Option FieldType} {hh : List (Nat × Nat × Nat × Nat)}
    (hy : plainName y.cls = true) (hw : ws = Cond.codeWith y cc maxL ret hh :: ws')
    (body : ∀ p e s m args below meth c s₁, BodyLoose p l y (headSpec ws rm) cc maxL ret e s m args below meth c s₁ → c.maxLocals = maxL → Pc args s →
      W p l e (headSpec ws rm).room s m args below meth c s.heap [] 0 0 (vx_MQ below Qc XC args s mc ms free) (entryFrame m args maxL)) : vx_Met l y ws rm Pc Qc XC mc ms free := by
  refine MetFree.of_bodyS (code := cc) (maxLocals := maxL) (ret := ret) hy ?_ ?_
  · intro args s m h hn
    obtain ⟨m9, meth, c, hn9, h1, h2, h3, h4, -, h5, h6, -⟩ := Cond.codeWith_spec (atoms_spec (ws := ws) h _ (by rw [hw]; exact List.mem_cons_self))
    cases hn.symm.trans hn9
    exact ⟨meth, c, h1, h2, h3, h4, h5, h6⟩
  · intro p e s m args below meth c s₁ B hml hP _
    have hh0 : s₁.heap = s.heap := by rw [B.state]; rfl
    obtain ⟨t, a1, o, b1, b2, b3⟩ := body p e s m args below meth c s₁ B hml hP s₁ hh0 (Stand.of_body B)
    exact ⟨t, o, a1, b1, b2, b3⟩
/-! ===== END ===== -/
end
section
/-! ===== BEGIN printed: names, fields, word lists, decode rows ===== -/
def RX0 : String := "RoofWater$House"
def TX0 : u_T := fun k => match k with
  | 0 => ("RoofWater$House", "roof", "I", false)
  | 1 => ("RoofWater$House", "holds", "I", false)
  | 2 => ("RoofWater$House", "water", "I", false)
  | 3 => ("RoofWater$House", "people", "I", false)
  | 4 => ("RoofWater$House", "garden", "I", false)
  | 5 => ("RoofWater$House", "clogged", "I", false)
  | 6 => ("RoofWater$House", "next", "I", false)
  | 7 => ("RoofWater$House", "thirst", "I", false)
  | 8 => ("RoofWater$House", "watered", "I", false)
  | _ => ("RoofWater$House", "thirstyDays", "I", false)
def tyX0 : Nat → FieldType := fun k => match k with
  | 0 => .int
  | 1 => .int
  | 2 => .int
  | 3 => .int
  | 4 => .int
  | 5 => .int
  | 6 => .int
  | 7 => .int
  | 8 => .int
  | _ => .int
abbrev wsX00 : List Cond := u_ws RX0 TX0 10
theorem nmX0 : ∀ a, a < 10 → ∀ b, b < 10 → a ≠ b → (TX0 a).2.1 ≠ (TX0 b).2.1 := by decide +kernel
theorem tyX0_ok : ∀ k, k < 10 → parseFieldDescriptor (TX0 k).2.2.1 = some (tyX0 k) := by decide +kernel
abbrev cX0_init : ByteArray := prog_2_method_1_code
def yX0_init : MethodName := ⟨RX0, "<init>", "()V"⟩
abbrev cX0_copy : ByteArray := prog_2_method_2_code
def yX0_copy : MethodName := ⟨RX0, "copy", "(LRoofWater$House;)V"⟩
abbrev cX0_fact : ByteArray := prog_2_method_3_code
def yX0_fact : MethodName := ⟨RX0, "fact", "(I)I"⟩
abbrev cX0_runOff : ByteArray := prog_2_method_5_code
def yX0_runOff : MethodName := ⟨RX0, "runOff", "(I)I"⟩
abbrev cX0_takeIn : ByteArray := prog_2_method_6_code
def yX0_takeIn : MethodName := ⟨RX0, "takeIn", "(I)I"⟩
abbrev cX0_drink : ByteArray := prog_2_method_7_code
def yX0_drink : MethodName := ⟨RX0, "drink", "()I"⟩
abbrev cX0_waterGarden : ByteArray := prog_2_method_8_code
def yX0_waterGarden : MethodName := ⟨RX0, "waterGarden", "()V"⟩
abbrev cX0_clog : ByteArray := prog_2_method_9_code
def yX0_clog : MethodName := ⟨RX0, "clog", "(I)V"⟩
def RX1 : String := "RoofWater$Pipe"
def TX1 : u_T := fun k => match k with
  | 0 => ("RoofWater$Pipe", "a", "I", false)
  | 1 => ("RoofWater$Pipe", "b", "I", false)
  | 2 => ("RoofWater$Pipe", "lets", "I", false)
  | 3 => ("RoofWater$Pipe", "isOpen", "Z", false)
  | 4 => ("RoofWater$Pipe", "through", "I", false)
  | _ => ("RoofWater$Pipe", "toB", "I", false)
def tyX1 : Nat → FieldType := fun k => match k with
  | 0 => .int
  | 1 => .int
  | 2 => .int
  | 3 => .boolean
  | 4 => .int
  | _ => .int
abbrev wsX10 : List Cond := u_ws RX1 TX1 6
theorem nmX1 : ∀ a, a < 6 → ∀ b, b < 6 → a ≠ b → (TX1 a).2.1 ≠ (TX1 b).2.1 := by decide +kernel
theorem tyX1_ok : ∀ k, k < 6 → parseFieldDescriptor (TX1 k).2.2.1 = some (tyX1 k) := by decide +kernel
abbrev cX1_init : ByteArray := prog_3_method_1_code
def yX1_init : MethodName := ⟨RX1, "<init>", "()V"⟩
abbrev cX1_copy : ByteArray := prog_3_method_2_code
def yX1_copy : MethodName := ⟨RX1, "copy", "(LRoofWater$Pipe;)V"⟩
abbrev cX1_fact : ByteArray := prog_3_method_3_code
def yX1_fact : MethodName := ⟨RX1, "fact", "(I)I"⟩
abbrev cX1_evenOut : ByteArray := prog_3_method_4_code
def yX1_evenOut : MethodName := ⟨RX1, "evenOut", "(LRoofWater$House;LRoofWater$House;)V"⟩
abbrev cX1_debt : ByteArray := prog_3_method_5_code
def yX1_debt : MethodName := ⟨RX1, "debt", "(II)I"⟩
def RX2 : String := "RoofWater$Village"
def TX2 : u_T := fun k => match k with
  | 0 => ("RoofWater$Village", "weather", "LRoofWater$Weather;", true)
  | 1 => ("RoofWater$Village", "houses", "[LRoofWater$House;", true)
  | 2 => ("RoofWater$Village", "pipes", "[LRoofWater$Pipe;", true)
  | 3 => ("RoofWater$Village", "houseCount", "I", false)
  | 4 => ("RoofWater$Village", "pipeCount", "I", false)
  | 5 => ("RoofWater$Village", "day", "I", false)
  | 6 => ("RoofWater$Village", "fromRoofs", "I", false)
  | 7 => ("RoofWater$Village", "lost", "I", false)
  | 8 => ("RoofWater$Village", "drunk", "I", false)
  | _ => ("RoofWater$Village", "carted", "I", false)
def tyX2 : Nat → FieldType := fun k => match k with
  | 0 => .object "RoofWater$Weather"
  | 1 => .array (.object "RoofWater$House")
  | 2 => .array (.object "RoofWater$Pipe")
  | 3 => .int
  | 4 => .int
  | 5 => .int
  | 6 => .int
  | 7 => .int
  | 8 => .int
  | _ => .int
abbrev wsX20 : List Cond := u_ws RX2 TX2 10
theorem nmX2 : ∀ a, a < 10 → ∀ b, b < 10 → a ≠ b → (TX2 a).2.1 ≠ (TX2 b).2.1 := by decide +kernel
theorem tyX2_ok : ∀ k, k < 10 → parseFieldDescriptor (TX2 k).2.2.1 = some (tyX2 k) := by decide +kernel
abbrev cX2_init : ByteArray := prog_4_method_1_code
def yX2_init : MethodName := ⟨RX2, "<init>", "(LRoofWater$Weather;)V"⟩
abbrev cX2_copy : ByteArray := prog_4_method_2_code
def yX2_copy : MethodName := ⟨RX2, "copy", "(LRoofWater$Village;)V"⟩
abbrev cX2_hasHouse : ByteArray := prog_4_method_3_code
def yX2_hasHouse : MethodName := ⟨RX2, "hasHouse", "(I)Z"⟩
abbrev cX2_hasPipe : ByteArray := prog_4_method_4_code
def yX2_hasPipe : MethodName := ⟨RX2, "hasPipe", "(I)Z"⟩
abbrev cX2_addHouse : ByteArray := prog_4_method_5_code
def yX2_addHouse : MethodName := ⟨RX2, "addHouse", "(IIII)I"⟩
abbrev cX2_addPipe : ByteArray := prog_4_method_6_code
def yX2_addPipe : MethodName := ⟨RX2, "addPipe", "(III)I"⟩
abbrev cX2_flowsThrough : ByteArray := prog_4_method_7_code
def yX2_flowsThrough : MethodName := ⟨RX2, "flowsThrough", "(II)Z"⟩
abbrev cX2_chainLength : ByteArray := prog_4_method_8_code
def yX2_chainLength : MethodName := ⟨RX2, "chainLength", "(I)I"⟩
abbrev cX2_pour : ByteArray := prog_4_method_9_code
def yX2_pour : MethodName := ⟨RX2, "pour", "(II)I"⟩
abbrev cX2_live : ByteArray := prog_4_method_10_code
def yX2_live : MethodName := ⟨RX2, "live", "(I)I"⟩
abbrev cX2_daysToThirst : ByteArray := prog_4_method_11_code
def yX2_daysToThirst : MethodName := ⟨RX2, "daysToThirst", "(II)I"⟩
abbrev cX2_liveDay : ByteArray := prog_4_method_12_code
def yX2_liveDay : MethodName := ⟨RX2, "liveDay", "()V"⟩
abbrev cX2_rainDown : ByteArray := prog_4_method_13_code
def yX2_rainDown : MethodName := ⟨RX2, "rainDown", "(I)V"⟩
abbrev cX2_openPipesFlow : ByteArray := prog_4_method_14_code
def yX2_openPipesFlow : MethodName := ⟨RX2, "openPipesFlow", "()V"⟩
abbrev cX2_debt : ByteArray := prog_4_method_15_code
def yX2_debt : MethodName := ⟨RX2, "debt", "(II)I"⟩
abbrev cX2_total : ByteArray := prog_4_method_16_code
def yX2_total : MethodName := ⟨RX2, "total", "(I)I"⟩
abbrev cX2_allWater : ByteArray := prog_4_method_17_code
def yX2_allWater : MethodName := ⟨RX2, "allWater", "()I"⟩
abbrev cX2_allHolds : ByteArray := prog_4_method_18_code
def yX2_allHolds : MethodName := ⟨RX2, "allHolds", "()I"⟩
abbrev cX2_allThirst : ByteArray := prog_4_method_19_code
def yX2_allThirst : MethodName := ⟨RX2, "allThirst", "()I"⟩
abbrev cX2_allWatered : ByteArray := prog_4_method_20_code
def yX2_allWatered : MethodName := ⟨RX2, "allWatered", "()I"⟩
abbrev cX2_openValves : ByteArray := prog_4_method_21_code
def yX2_openValves : MethodName := ⟨RX2, "openValves", "()I"⟩
def RX3 : String := "RoofWater$Weather"
def TX3 : u_T := fun k => match k with
  | 0 => ("RoofWater$Weather", "rain", "[I", true)
  | _ => ("RoofWater$Weather", "leaves", "[I", true)
def tyX3 : Nat → FieldType := fun k => match k with
  | 0 => .array .int
  | _ => .array .int
abbrev wsX30 : List Cond := u_ws RX3 TX3 2
theorem nmX3 : ∀ a, a < 2 → ∀ b, b < 2 → a ≠ b → (TX3 a).2.1 ≠ (TX3 b).2.1 := by decide +kernel
theorem tyX3_ok : ∀ k, k < 2 → parseFieldDescriptor (TX3 k).2.2.1 = some (tyX3 k) := by decide +kernel
abbrev cX3_init : ByteArray := prog_5_method_1_code
def yX3_init : MethodName := ⟨RX3, "<init>", "()V"⟩
abbrev cX3_change : ByteArray := prog_5_method_2_code
def yX3_change : MethodName := ⟨RX3, "change", "(III)V"⟩
abbrev cX3_code : ByteArray := prog_5_method_3_code
def yX3_code : MethodName := ⟨RX3, "code", "(I)I"⟩
abbrev cX3_rainOn : ByteArray := prog_5_method_4_code
def yX3_rainOn : MethodName := ⟨RX3, "rainOn", "(I)I"⟩
abbrev cX3_leavesOn : ByteArray := prog_5_method_5_code
def yX3_leavesOn : MethodName := ⟨RX3, "leavesOn", "(I)I"⟩
def RX4 : String := "RoofWater"
def TX4 : u_T := fun k => match k with
  | 0 => ("RoofWater", "weather", "LRoofWater$Weather;", true)
  | 1 => ("RoofWater", "village", "LRoofWater$Village;", true)
  | _ => ("RoofWater", "trial", "LRoofWater$Village;", true)
def tyX4 : Nat → FieldType := fun k => match k with
  | 0 => .object "RoofWater$Weather"
  | 1 => .object "RoofWater$Village"
  | _ => .object "RoofWater$Village"
abbrev wsX40 : List Cond := u_ws RX4 TX4 3
theorem nmX4 : ∀ a, a < 3 → ∀ b, b < 3 → a ≠ b → (TX4 a).2.1 ≠ (TX4 b).2.1 := by decide +kernel
theorem tyX4_ok : ∀ k, k < 3 → parseFieldDescriptor (TX4 k).2.2.1 = some (tyX4 k) := by decide +kernel
abbrev cX4_init : ByteArray := prog_1_method_1_code
def yX4_init : MethodName := ⟨RX4, "<init>", "()V"⟩
abbrev cX4_setWeather : ByteArray := prog_1_method_2_code
def yX4_setWeather : MethodName := ⟨RX4, "setWeather", "(III)I"⟩
abbrev cX4_build : ByteArray := prog_1_method_3_code
def yX4_build : MethodName := ⟨RX4, "build", "(IIII)I"⟩
abbrev cX4_chain : ByteArray := prog_1_method_4_code
def yX4_chain : MethodName := ⟨RX4, "chain", "(II)I"⟩
abbrev cX4_lay : ByteArray := prog_1_method_5_code
def yX4_lay : MethodName := ⟨RX4, "lay", "(III)I"⟩
abbrev cX4_turn : ByteArray := prog_1_method_6_code
def yX4_turn : MethodName := ⟨RX4, "turn", "(IZ)Z"⟩
abbrev cX4_clean : ByteArray := prog_1_method_7_code
def yX4_clean : MethodName := ⟨RX4, "clean", "(I)I"⟩
abbrev cX4_cart : ByteArray := prog_1_method_8_code
def yX4_cart : MethodName := ⟨RX4, "cart", "(II)I"⟩
abbrev cX4_setPeople : ByteArray := prog_1_method_9_code
def yX4_setPeople : MethodName := ⟨RX4, "setPeople", "(II)I"⟩
abbrev cX4_house : ByteArray := prog_1_method_10_code
def yX4_house : MethodName := ⟨RX4, "house", "(II)I"⟩
abbrev cX4_pipe : ByteArray := prog_1_method_11_code
def yX4_pipe : MethodName := ⟨RX4, "pipe", "(II)I"⟩
abbrev cX4_owes : ByteArray := prog_1_method_12_code
def yX4_owes : MethodName := ⟨RX4, "owes", "(II)I"⟩
abbrev cX4_pass : ByteArray := prog_1_method_13_code
def yX4_pass : MethodName := ⟨RX4, "pass", "(I)I"⟩
abbrev cX4_count : ByteArray := prog_1_method_14_code
def yX4_count : MethodName := ⟨RX4, "count", "(I)I"⟩
abbrev cX4_foresee : ByteArray := prog_1_method_15_code
def yX4_foresee : MethodName := ⟨RX4, "foresee", "(II)I"⟩
abbrev cX4_lasts : ByteArray := prog_1_method_16_code
def yX4_lasts : MethodName := ⟨RX4, "lasts", "(I)I"⟩
abbrev cX4_full : ByteArray := prog_1_method_21_code
def yX4_full : MethodName := ⟨RX4, "full", "()D"⟩
abbrev cX4_isWithin : ByteArray := prog_1_method_27_code
def yX4_isWithin : MethodName := ⟨RX4, "isWithin", "(III)Z"⟩
abbrev cX4_needHouse : ByteArray := prog_1_method_28_code
def yX4_needHouse : MethodName := ⟨RX4, "needHouse", "(I)V"⟩
abbrev cX4_needPipe : ByteArray := prog_1_method_29_code
def yX4_needPipe : MethodName := ⟨RX4, "needPipe", "(I)V"⟩
abbrev cX4_needIndex : ByteArray := prog_1_method_30_code
def yX4_needIndex : MethodName := ⟨RX4, "needIndex", "(Z)V"⟩
abbrev cX4_needArgument : ByteArray := prog_1_method_31_code
def yX4_needArgument : MethodName := ⟨RX4, "needArgument", "(Z)V"⟩
abbrev cX4_needState : ByteArray := prog_1_method_32_code
def yX4_needState : MethodName := ⟨RX4, "needState", "(Z)V"⟩
def RX5 : String := "RoofWaterLaw$House"
def TX5 : u_T := fun k => match k with
  | 0 => ("RoofWaterLaw$House", "roof", "I", false)
  | 1 => ("RoofWaterLaw$House", "holds", "I", false)
  | 2 => ("RoofWaterLaw$House", "water", "I", false)
  | 3 => ("RoofWaterLaw$House", "people", "I", false)
  | 4 => ("RoofWaterLaw$House", "garden", "I", false)
  | 5 => ("RoofWaterLaw$House", "clog", "I", false)
  | 6 => ("RoofWaterLaw$House", "next", "I", false)
  | 7 => ("RoofWaterLaw$House", "thirst", "I", false)
  | 8 => ("RoofWaterLaw$House", "got", "I", false)
  | _ => ("RoofWaterLaw$House", "dry", "I", false)
def tyX5 : Nat → FieldType := fun k => match k with
  | 0 => .int
  | 1 => .int
  | 2 => .int
  | 3 => .int
  | 4 => .int
  | 5 => .int
  | 6 => .int
  | 7 => .int
  | 8 => .int
  | _ => .int
abbrev wsX50 : List Cond := u_ws RX5 TX5 10
theorem nmX5 : ∀ a, a < 10 → ∀ b, b < 10 → a ≠ b → (TX5 a).2.1 ≠ (TX5 b).2.1 := by decide +kernel
theorem tyX5_ok : ∀ k, k < 10 → parseFieldDescriptor (TX5 k).2.2.1 = some (tyX5 k) := by decide +kernel
abbrev cX5_init : ByteArray := prog_7_method_1_code
def yX5_init : MethodName := ⟨RX5, "<init>", "()V"⟩
def RX6 : String := "RoofWaterLaw$Sim"
def TX6 : u_T := fun k => match k with
  | 0 => ("RoofWaterLaw$Sim", "weather", "[[I", false)
  | 1 => ("RoofWaterLaw$Sim", "houses", "[LRoofWaterLaw$House;", false)
  | 2 => ("RoofWaterLaw$Sim", "pipes", "[[I", false)
  | 3 => ("RoofWaterLaw$Sim", "from", "[[I", false)
  | 4 => ("RoofWaterLaw$Sim", "day", "I", false)
  | 5 => ("RoofWaterLaw$Sim", "roofs", "I", false)
  | 6 => ("RoofWaterLaw$Sim", "lost", "I", false)
  | 7 => ("RoofWaterLaw$Sim", "drunk", "I", false)
  | _ => ("RoofWaterLaw$Sim", "carts", "I", false)
def tyX6 : Nat → FieldType := fun k => match k with
  | 0 => .array (.array .int)
  | 1 => .array (.object "RoofWaterLaw$House")
  | 2 => .array (.array .int)
  | 3 => .array (.array .int)
  | 4 => .int
  | 5 => .int
  | 6 => .int
  | 7 => .int
  | _ => .int
abbrev wsX60 : List Cond := u_ws RX6 TX6 9
theorem nmX6 : ∀ a, a < 9 → ∀ b, b < 9 → a ≠ b → (TX6 a).2.1 ≠ (TX6 b).2.1 := by decide +kernel
theorem tyX6_ok : ∀ k, k < 9 → parseFieldDescriptor (TX6 k).2.2.1 = some (tyX6 k) := by decide +kernel
abbrev cX6_init : ByteArray := prog_8_method_1_code
def yX6_init : MethodName := ⟨RX6, "<init>", "()V"⟩
abbrev cX6_build : ByteArray := prog_8_method_3_code
def yX6_build : MethodName := ⟨RX6, "build", "(IIII)V"⟩
abbrev cX6_lay : ByteArray := prog_8_method_4_code
def yX6_lay : MethodName := ⟨RX6, "lay", "(III)V"⟩
abbrev cX6_leads : ByteArray := prog_8_method_5_code
def yX6_leads : MethodName := ⟨RX6, "leads", "(II)Z"⟩
abbrev cX6_behind : ByteArray := prog_8_method_6_code
def yX6_behind : MethodName := ⟨RX6, "behind", "(I)I"⟩
abbrev cX6_pour : ByteArray := prog_8_method_7_code
def yX6_pour : MethodName := ⟨RX6, "pour", "(II)I"⟩
abbrev cX6_pass : ByteArray := prog_8_method_8_code
def yX6_pass : MethodName := ⟨RX6, "pass", "()I"⟩
abbrev cX6_all : ByteArray := prog_8_method_10_code
def yX6_all : MethodName := ⟨RX6, "all", "()I"⟩
abbrev cX6_isSame : ByteArray := prog_8_method_11_code
def yX6_isSame : MethodName := ⟨RX6, "isSame", "(LRoofWater;)Z"⟩
def RX7 : String := "RoofWaterModel"
def TX7 : u_T := fun k => match k with
  | _ => ("", "", "", false)
def tyX7 : Nat → FieldType := fun k => match k with
  | _ => .int
abbrev wsX70 : List Cond := u_ws RX7 TX7 0
theorem nmX7 : ∀ a, a < 0 → ∀ b, b < 0 → a ≠ b → (TX7 a).2.1 ≠ (TX7 b).2.1 := by decide +kernel
theorem tyX7_ok : ∀ k, k < 0 → parseFieldDescriptor (TX7 k).2.2.1 = some (tyX7 k) := by decide +kernel
def RJ9 : String := "java/lang/Math"
def TJ9 : u_T := fun k => match k with
  | _ => ("", "", "", false)
def tyJ9 : Nat → FieldType := fun k => match k with
  | _ => .int
abbrev wsJ90 : List Cond := u_ws RJ9 TJ9 0
theorem nmJ9 : ∀ a, a < 0 → ∀ b, b < 0 → a ≠ b → (TJ9 a).2.1 ≠ (TJ9 b).2.1 := by decide +kernel
theorem tyJ9_ok : ∀ k, k < 0 → parseFieldDescriptor (TJ9 k).2.2.1 = some (tyJ9 k) := by decide +kernel
abbrev cJ9_floorMod_7cf53 : ByteArray := prog_14_method_50_code
def yJ9_floorMod_7cf53 : MethodName := ⟨RJ9, "floorMod", "(II)I"⟩
abbrev cJ9_abs_0f7a4 : ByteArray := prog_14_method_59_code
def yJ9_abs_0f7a4 : MethodName := ⟨RJ9, "abs", "(I)I"⟩
abbrev cJ9_max_7cf53 : ByteArray := prog_14_method_65_code
def yJ9_max_7cf53 : MethodName := ⟨RJ9, "max", "(II)I"⟩
abbrev cJ9_min_7cf53 : ByteArray := prog_14_method_69_code
def yJ9_min_7cf53 : MethodName := ⟨RJ9, "min", "(II)I"⟩
def RJ0 : String := "java/lang/String"
def TJ0 : u_T := fun k => match k with
  | _ => ("", "", "", false)
def tyJ0 : Nat → FieldType := fun k => match k with
  | _ => .int
abbrev wsJ00 : List Cond := u_ws RJ0 TJ0 0
theorem nmJ0 : ∀ a, a < 0 → ∀ b, b < 0 → a ≠ b → (TJ0 a).2.1 ≠ (TJ0 b).2.1 := by decide +kernel
theorem tyJ0_ok : ∀ k, k < 0 → parseFieldDescriptor (TJ0 k).2.2.1 = some (tyJ0 k) := by decide +kernel
def RL : String := "RoofWaterLaw"
abbrev cL_below : ByteArray := method_2_code
def yL_below : MethodName := ⟨RL, "below", "(II)I"⟩
abbrev cL_cell : ByteArray := method_3_code
def yL_cell : MethodName := ⟨RL, "cell", "([II)I"⟩
abbrev cL_build : ByteArray := method_4_code
def yL_build : MethodName := ⟨RL, "build", "(LRoofWater;[I)LRoofWaterLaw$Sim;"⟩
abbrev cL_act : ByteArray := method_5_code
def yL_act : MethodName := ⟨RL, "act", "(LRoofWater;LRoofWaterLaw$Sim;I)Z"⟩
abbrev cL_law : ByteArray := code
def yL_law : MethodName := ⟨RL, "law", "([I)Z"⟩
abbrev vwCl : List vw_C := [(RX0, TX0, 10), (RX1, TX1, 6), (RX2, TX2, 10), (RX3, TX3, 2), (RX4, TX4, 3), (RX5, TX5, 10), (RX6, TX6, 9)]
end
section
theorem dX0_init_0 : decode cX0_init 0 = .ok (.aload_n 0, 1) := by decide +kernel
theorem dX0_init_1 : decode cX0_init 1 = .ok (.invokespecial 3, 3) := by decide +kernel
theorem dX0_init_4 : decode cX0_init 4 = .ok (.aload_n 0, 1) := by decide +kernel
theorem dX0_init_5 : decode cX0_init 5 = .ok (.iconst (-1), 1) := by decide +kernel
theorem dX0_init_6 : decode cX0_init 6 = .ok (.putfield 9, 3) := by decide +kernel
theorem dX0_init_9 : decode cX0_init 9 = .ok (.return_, 1) := by decide +kernel
theorem dX0_copy_0 : decode cX0_copy 0 = .ok (.aload_n 0, 1) := by decide +kernel
theorem dX0_copy_1 : decode cX0_copy 1 = .ok (.aload_n 1, 1) := by decide +kernel
theorem dX0_copy_2 : decode cX0_copy 2 = .ok (.getfield 15, 3) := by decide +kernel
theorem dX0_copy_5 : decode cX0_copy 5 = .ok (.putfield 15, 3) := by decide +kernel
theorem dX0_copy_8 : decode cX0_copy 8 = .ok (.aload_n 0, 1) := by decide +kernel
theorem dX0_copy_9 : decode cX0_copy 9 = .ok (.aload_n 1, 1) := by decide +kernel
theorem dX0_copy_10 : decode cX0_copy 10 = .ok (.getfield 18, 3) := by decide +kernel
theorem dX0_copy_13 : decode cX0_copy 13 = .ok (.putfield 18, 3) := by decide +kernel
theorem dX0_copy_16 : decode cX0_copy 16 = .ok (.aload_n 0, 1) := by decide +kernel
theorem dX0_copy_17 : decode cX0_copy 17 = .ok (.aload_n 1, 1) := by decide +kernel
theorem dX0_copy_18 : decode cX0_copy 18 = .ok (.getfield 21, 3) := by decide +kernel
theorem dX0_copy_21 : decode cX0_copy 21 = .ok (.putfield 21, 3) := by decide +kernel
theorem dX0_copy_24 : decode cX0_copy 24 = .ok (.aload_n 0, 1) := by decide +kernel
theorem dX0_copy_25 : decode cX0_copy 25 = .ok (.aload_n 1, 1) := by decide +kernel
theorem dX0_copy_26 : decode cX0_copy 26 = .ok (.getfield 24, 3) := by decide +kernel
theorem dX0_copy_29 : decode cX0_copy 29 = .ok (.putfield 24, 3) := by decide +kernel
theorem dX0_copy_32 : decode cX0_copy 32 = .ok (.aload_n 0, 1) := by decide +kernel
theorem dX0_copy_33 : decode cX0_copy 33 = .ok (.aload_n 1, 1) := by decide +kernel
theorem dX0_copy_34 : decode cX0_copy 34 = .ok (.getfield 27, 3) := by decide +kernel
theorem dX0_copy_37 : decode cX0_copy 37 = .ok (.putfield 27, 3) := by decide +kernel
theorem dX0_copy_40 : decode cX0_copy 40 = .ok (.aload_n 0, 1) := by decide +kernel
theorem dX0_copy_41 : decode cX0_copy 41 = .ok (.aload_n 1, 1) := by decide +kernel
theorem dX0_copy_42 : decode cX0_copy 42 = .ok (.getfield 30, 3) := by decide +kernel
theorem dX0_copy_45 : decode cX0_copy 45 = .ok (.putfield 30, 3) := by decide +kernel
theorem dX0_copy_48 : decode cX0_copy 48 = .ok (.aload_n 0, 1) := by decide +kernel
theorem dX0_copy_49 : decode cX0_copy 49 = .ok (.aload_n 1, 1) := by decide +kernel
theorem dX0_copy_50 : decode cX0_copy 50 = .ok (.getfield 9, 3) := by decide +kernel
theorem dX0_copy_53 : decode cX0_copy 53 = .ok (.putfield 9, 3) := by decide +kernel
theorem dX0_copy_56 : decode cX0_copy 56 = .ok (.aload_n 0, 1) := by decide +kernel
theorem dX0_copy_57 : decode cX0_copy 57 = .ok (.aload_n 1, 1) := by decide +kernel
theorem dX0_copy_58 : decode cX0_copy 58 = .ok (.getfield 33, 3) := by decide +kernel
theorem dX0_copy_61 : decode cX0_copy 61 = .ok (.putfield 33, 3) := by decide +kernel
theorem dX0_copy_64 : decode cX0_copy 64 = .ok (.aload_n 0, 1) := by decide +kernel
theorem dX0_copy_65 : decode cX0_copy 65 = .ok (.aload_n 1, 1) := by decide +kernel
theorem dX0_copy_66 : decode cX0_copy 66 = .ok (.getfield 36, 3) := by decide +kernel
theorem dX0_copy_69 : decode cX0_copy 69 = .ok (.putfield 36, 3) := by decide +kernel
theorem dX0_copy_72 : decode cX0_copy 72 = .ok (.aload_n 0, 1) := by decide +kernel
theorem dX0_copy_73 : decode cX0_copy 73 = .ok (.aload_n 1, 1) := by decide +kernel
theorem dX0_copy_74 : decode cX0_copy 74 = .ok (.getfield 39, 3) := by decide +kernel
theorem dX0_copy_77 : decode cX0_copy 77 = .ok (.putfield 39, 3) := by decide +kernel
theorem dX0_copy_80 : decode cX0_copy 80 = .ok (.return_, 1) := by decide +kernel
theorem dX0_fact_0 : decode cX0_fact 0 = .ok (.iload_n 1, 1) := by decide +kernel
theorem dX0_fact_1 : decode cX0_fact 1 = .ok (.tableswitch 96 0 8 #[51, 56, 61, 66, 71, 76, 81, 86, 91], 51) := by decide +kernel
theorem dX0_fact_52 : decode cX0_fact 52 = .ok (.aload_n 0, 1) := by decide +kernel
theorem dX0_fact_53 : decode cX0_fact 53 = .ok (.getfield 15, 3) := by decide +kernel
theorem dX0_fact_56 : decode cX0_fact 56 = .ok (.ireturn, 1) := by decide +kernel
theorem dX0_fact_57 : decode cX0_fact 57 = .ok (.aload_n 0, 1) := by decide +kernel
theorem dX0_fact_58 : decode cX0_fact 58 = .ok (.getfield 18, 3) := by decide +kernel
theorem dX0_fact_61 : decode cX0_fact 61 = .ok (.ireturn, 1) := by decide +kernel
theorem dX0_fact_62 : decode cX0_fact 62 = .ok (.aload_n 0, 1) := by decide +kernel
theorem dX0_fact_63 : decode cX0_fact 63 = .ok (.getfield 21, 3) := by decide +kernel
theorem dX0_fact_66 : decode cX0_fact 66 = .ok (.ireturn, 1) := by decide +kernel
theorem dX0_fact_67 : decode cX0_fact 67 = .ok (.aload_n 0, 1) := by decide +kernel
theorem dX0_fact_68 : decode cX0_fact 68 = .ok (.getfield 24, 3) := by decide +kernel
theorem dX0_fact_71 : decode cX0_fact 71 = .ok (.ireturn, 1) := by decide +kernel
theorem dX0_fact_72 : decode cX0_fact 72 = .ok (.aload_n 0, 1) := by decide +kernel
theorem dX0_fact_73 : decode cX0_fact 73 = .ok (.getfield 27, 3) := by decide +kernel
theorem dX0_fact_76 : decode cX0_fact 76 = .ok (.ireturn, 1) := by decide +kernel
theorem dX0_fact_77 : decode cX0_fact 77 = .ok (.aload_n 0, 1) := by decide +kernel
theorem dX0_fact_78 : decode cX0_fact 78 = .ok (.getfield 30, 3) := by decide +kernel
theorem dX0_fact_81 : decode cX0_fact 81 = .ok (.ireturn, 1) := by decide +kernel
theorem dX0_fact_82 : decode cX0_fact 82 = .ok (.aload_n 0, 1) := by decide +kernel
theorem dX0_fact_83 : decode cX0_fact 83 = .ok (.getfield 9, 3) := by decide +kernel
theorem dX0_fact_86 : decode cX0_fact 86 = .ok (.ireturn, 1) := by decide +kernel
theorem dX0_fact_87 : decode cX0_fact 87 = .ok (.aload_n 0, 1) := by decide +kernel
theorem dX0_fact_88 : decode cX0_fact 88 = .ok (.getfield 33, 3) := by decide +kernel
theorem dX0_fact_91 : decode cX0_fact 91 = .ok (.ireturn, 1) := by decide +kernel
theorem dX0_fact_92 : decode cX0_fact 92 = .ok (.aload_n 0, 1) := by decide +kernel
theorem dX0_fact_93 : decode cX0_fact 93 = .ok (.getfield 36, 3) := by decide +kernel
theorem dX0_fact_96 : decode cX0_fact 96 = .ok (.ireturn, 1) := by decide +kernel
theorem dX0_fact_97 : decode cX0_fact 97 = .ok (.aload_n 0, 1) := by decide +kernel
theorem dX0_fact_98 : decode cX0_fact 98 = .ok (.getfield 39, 3) := by decide +kernel
theorem dX0_fact_101 : decode cX0_fact 101 = .ok (.ireturn, 1) := by decide +kernel
theorem dX0_runOff_0 : decode cX0_runOff 0 = .ok (.aload_n 0, 1) := by decide +kernel
theorem dX0_runOff_1 : decode cX0_runOff 1 = .ok (.getfield 15, 3) := by decide +kernel
theorem dX0_runOff_4 : decode cX0_runOff 4 = .ok (.iload_n 1, 1) := by decide +kernel
theorem dX0_runOff_5 : decode cX0_runOff 5 = .ok (.imul, 1) := by decide +kernel
theorem dX0_runOff_6 : decode cX0_runOff 6 = .ok (.bipush 10, 2) := by decide +kernel
theorem dX0_runOff_8 : decode cX0_runOff 8 = .ok (.aload_n 0, 1) := by decide +kernel
theorem dX0_runOff_9 : decode cX0_runOff 9 = .ok (.getfield 30, 3) := by decide +kernel
theorem dX0_runOff_12 : decode cX0_runOff 12 = .ok (.isub, 1) := by decide +kernel
theorem dX0_runOff_13 : decode cX0_runOff 13 = .ok (.imul, 1) := by decide +kernel
theorem dX0_runOff_14 : decode cX0_runOff 14 = .ok (.bipush 10, 2) := by decide +kernel
theorem dX0_runOff_16 : decode cX0_runOff 16 = .ok (.idiv, 1) := by decide +kernel
theorem dX0_runOff_17 : decode cX0_runOff 17 = .ok (.ireturn, 1) := by decide +kernel
theorem dX0_takeIn_0 : decode cX0_takeIn 0 = .ok (.iload_n 1, 1) := by decide +kernel
theorem dX0_takeIn_1 : decode cX0_takeIn 1 = .ok (.aload_n 0, 1) := by decide +kernel
theorem dX0_takeIn_2 : decode cX0_takeIn 2 = .ok (.getfield 18, 3) := by decide +kernel
theorem dX0_takeIn_5 : decode cX0_takeIn 5 = .ok (.aload_n 0, 1) := by decide +kernel
theorem dX0_takeIn_6 : decode cX0_takeIn 6 = .ok (.getfield 21, 3) := by decide +kernel
theorem dX0_takeIn_9 : decode cX0_takeIn 9 = .ok (.isub, 1) := by decide +kernel
theorem dX0_takeIn_10 : decode cX0_takeIn 10 = .ok (.invokestatic 42, 3) := by decide +kernel
theorem dX0_takeIn_13 : decode cX0_takeIn 13 = .ok (.istore_n 2, 1) := by decide +kernel
theorem dX0_takeIn_14 : decode cX0_takeIn 14 = .ok (.aload_n 0, 1) := by decide +kernel
theorem dX0_takeIn_15 : decode cX0_takeIn 15 = .ok (.dup, 1) := by decide +kernel
theorem dX0_takeIn_16 : decode cX0_takeIn 16 = .ok (.getfield 21, 3) := by decide +kernel
theorem dX0_takeIn_19 : decode cX0_takeIn 19 = .ok (.iload_n 2, 1) := by decide +kernel
theorem dX0_takeIn_20 : decode cX0_takeIn 20 = .ok (.iadd, 1) := by decide +kernel
theorem dX0_takeIn_21 : decode cX0_takeIn 21 = .ok (.putfield 21, 3) := by decide +kernel
theorem dX0_takeIn_24 : decode cX0_takeIn 24 = .ok (.iload_n 1, 1) := by decide +kernel
theorem dX0_takeIn_25 : decode cX0_takeIn 25 = .ok (.iload_n 2, 1) := by decide +kernel
theorem dX0_takeIn_26 : decode cX0_takeIn 26 = .ok (.isub, 1) := by decide +kernel
theorem dX0_takeIn_27 : decode cX0_takeIn 27 = .ok (.ireturn, 1) := by decide +kernel
theorem dX0_drink_0 : decode cX0_drink 0 = .ok (.iconst 3, 1) := by decide +kernel
theorem dX0_drink_1 : decode cX0_drink 1 = .ok (.aload_n 0, 1) := by decide +kernel
theorem dX0_drink_2 : decode cX0_drink 2 = .ok (.getfield 24, 3) := by decide +kernel
theorem dX0_drink_5 : decode cX0_drink 5 = .ok (.imul, 1) := by decide +kernel
theorem dX0_drink_6 : decode cX0_drink 6 = .ok (.istore_n 1, 1) := by decide +kernel
theorem dX0_drink_7 : decode cX0_drink 7 = .ok (.iload_n 1, 1) := by decide +kernel
theorem dX0_drink_8 : decode cX0_drink 8 = .ok (.aload_n 0, 1) := by decide +kernel
theorem dX0_drink_9 : decode cX0_drink 9 = .ok (.getfield 21, 3) := by decide +kernel
theorem dX0_drink_12 : decode cX0_drink 12 = .ok (.invokestatic 42, 3) := by decide +kernel
theorem dX0_drink_15 : decode cX0_drink 15 = .ok (.istore_n 2, 1) := by decide +kernel
theorem dX0_drink_16 : decode cX0_drink 16 = .ok (.aload_n 0, 1) := by decide +kernel
theorem dX0_drink_17 : decode cX0_drink 17 = .ok (.dup, 1) := by decide +kernel
theorem dX0_drink_18 : decode cX0_drink 18 = .ok (.getfield 21, 3) := by decide +kernel
theorem dX0_drink_21 : decode cX0_drink 21 = .ok (.iload_n 2, 1) := by decide +kernel
theorem dX0_drink_22 : decode cX0_drink 22 = .ok (.isub, 1) := by decide +kernel
theorem dX0_drink_23 : decode cX0_drink 23 = .ok (.putfield 21, 3) := by decide +kernel
theorem dX0_drink_26 : decode cX0_drink 26 = .ok (.aload_n 0, 1) := by decide +kernel
theorem dX0_drink_27 : decode cX0_drink 27 = .ok (.dup, 1) := by decide +kernel
theorem dX0_drink_28 : decode cX0_drink 28 = .ok (.getfield 33, 3) := by decide +kernel
theorem dX0_drink_31 : decode cX0_drink 31 = .ok (.iload_n 1, 1) := by decide +kernel
theorem dX0_drink_32 : decode cX0_drink 32 = .ok (.iload_n 2, 1) := by decide +kernel
theorem dX0_drink_33 : decode cX0_drink 33 = .ok (.isub, 1) := by decide +kernel
theorem dX0_drink_34 : decode cX0_drink 34 = .ok (.iadd, 1) := by decide +kernel
theorem dX0_drink_35 : decode cX0_drink 35 = .ok (.putfield 33, 3) := by decide +kernel
theorem dX0_drink_38 : decode cX0_drink 38 = .ok (.iload_n 2, 1) := by decide +kernel
theorem dX0_drink_39 : decode cX0_drink 39 = .ok (.iload_n 1, 1) := by decide +kernel
theorem dX0_drink_40 : decode cX0_drink 40 = .ok (.if_icmp .ge 13, 3) := by decide +kernel
theorem dX0_drink_43 : decode cX0_drink 43 = .ok (.aload_n 0, 1) := by decide +kernel
theorem dX0_drink_44 : decode cX0_drink 44 = .ok (.dup, 1) := by decide +kernel
theorem dX0_drink_45 : decode cX0_drink 45 = .ok (.getfield 39, 3) := by decide +kernel
theorem dX0_drink_48 : decode cX0_drink 48 = .ok (.iconst 1, 1) := by decide +kernel
theorem dX0_drink_49 : decode cX0_drink 49 = .ok (.iadd, 1) := by decide +kernel
theorem dX0_drink_50 : decode cX0_drink 50 = .ok (.putfield 39, 3) := by decide +kernel
theorem dX0_drink_53 : decode cX0_drink 53 = .ok (.iload_n 2, 1) := by decide +kernel
theorem dX0_drink_54 : decode cX0_drink 54 = .ok (.ireturn, 1) := by decide +kernel
theorem dX0_waterGarden_0 : decode cX0_waterGarden 0 = .ok (.iconst 2, 1) := by decide +kernel
theorem dX0_waterGarden_1 : decode cX0_waterGarden 1 = .ok (.aload_n 0, 1) := by decide +kernel
theorem dX0_waterGarden_2 : decode cX0_waterGarden 2 = .ok (.getfield 21, 3) := by decide +kernel
theorem dX0_waterGarden_5 : decode cX0_waterGarden 5 = .ok (.imul, 1) := by decide +kernel
theorem dX0_waterGarden_6 : decode cX0_waterGarden 6 = .ok (.aload_n 0, 1) := by decide +kernel
theorem dX0_waterGarden_7 : decode cX0_waterGarden 7 = .ok (.getfield 18, 3) := by decide +kernel
theorem dX0_waterGarden_10 : decode cX0_waterGarden 10 = .ok (.isub, 1) := by decide +kernel
theorem dX0_waterGarden_11 : decode cX0_waterGarden 11 = .ok (.istore_n 1, 1) := by decide +kernel
theorem dX0_waterGarden_12 : decode cX0_waterGarden 12 = .ok (.iload_n 1, 1) := by decide +kernel
theorem dX0_waterGarden_13 : decode cX0_waterGarden 13 = .ok (.ifCond .le 34, 3) := by decide +kernel
theorem dX0_waterGarden_16 : decode cX0_waterGarden 16 = .ok (.aload_n 0, 1) := by decide +kernel
theorem dX0_waterGarden_17 : decode cX0_waterGarden 17 = .ok (.getfield 27, 3) := by decide +kernel
theorem dX0_waterGarden_20 : decode cX0_waterGarden 20 = .ok (.iload_n 1, 1) := by decide +kernel
theorem dX0_waterGarden_21 : decode cX0_waterGarden 21 = .ok (.iconst 2, 1) := by decide +kernel
theorem dX0_waterGarden_22 : decode cX0_waterGarden 22 = .ok (.idiv, 1) := by decide +kernel
theorem dX0_waterGarden_23 : decode cX0_waterGarden 23 = .ok (.invokestatic 42, 3) := by decide +kernel
theorem dX0_waterGarden_26 : decode cX0_waterGarden 26 = .ok (.istore_n 2, 1) := by decide +kernel
theorem dX0_waterGarden_27 : decode cX0_waterGarden 27 = .ok (.aload_n 0, 1) := by decide +kernel
theorem dX0_waterGarden_28 : decode cX0_waterGarden 28 = .ok (.dup, 1) := by decide +kernel
theorem dX0_waterGarden_29 : decode cX0_waterGarden 29 = .ok (.getfield 21, 3) := by decide +kernel
theorem dX0_waterGarden_32 : decode cX0_waterGarden 32 = .ok (.iload_n 2, 1) := by decide +kernel
theorem dX0_waterGarden_33 : decode cX0_waterGarden 33 = .ok (.isub, 1) := by decide +kernel
theorem dX0_waterGarden_34 : decode cX0_waterGarden 34 = .ok (.putfield 21, 3) := by decide +kernel
theorem dX0_waterGarden_37 : decode cX0_waterGarden 37 = .ok (.aload_n 0, 1) := by decide +kernel
theorem dX0_waterGarden_38 : decode cX0_waterGarden 38 = .ok (.dup, 1) := by decide +kernel
theorem dX0_waterGarden_39 : decode cX0_waterGarden 39 = .ok (.getfield 36, 3) := by decide +kernel
theorem dX0_waterGarden_42 : decode cX0_waterGarden 42 = .ok (.iload_n 2, 1) := by decide +kernel
theorem dX0_waterGarden_43 : decode cX0_waterGarden 43 = .ok (.iadd, 1) := by decide +kernel
theorem dX0_waterGarden_44 : decode cX0_waterGarden 44 = .ok (.putfield 36, 3) := by decide +kernel
theorem dX0_waterGarden_47 : decode cX0_waterGarden 47 = .ok (.return_, 1) := by decide +kernel
theorem dX0_clog_0 : decode cX0_clog 0 = .ok (.aload_n 0, 1) := by decide +kernel
theorem dX0_clog_1 : decode cX0_clog 1 = .ok (.bipush 10, 2) := by decide +kernel
theorem dX0_clog_3 : decode cX0_clog 3 = .ok (.aload_n 0, 1) := by decide +kernel
theorem dX0_clog_4 : decode cX0_clog 4 = .ok (.getfield 30, 3) := by decide +kernel
theorem dX0_clog_7 : decode cX0_clog 7 = .ok (.iload_n 1, 1) := by decide +kernel
theorem dX0_clog_8 : decode cX0_clog 8 = .ok (.iadd, 1) := by decide +kernel
theorem dX0_clog_9 : decode cX0_clog 9 = .ok (.invokestatic 42, 3) := by decide +kernel
theorem dX0_clog_12 : decode cX0_clog 12 = .ok (.putfield 30, 3) := by decide +kernel
theorem dX0_clog_15 : decode cX0_clog 15 = .ok (.return_, 1) := by decide +kernel
theorem dJ9_floorMod_7cf53_0 : decode cJ9_floorMod_7cf53 0 = .ok (.iload_n 0, 1) := by decide +kernel
theorem dJ9_floorMod_7cf53_1 : decode cJ9_floorMod_7cf53 1 = .ok (.iload_n 1, 1) := by decide +kernel
theorem dJ9_floorMod_7cf53_2 : decode cJ9_floorMod_7cf53 2 = .ok (.irem, 1) := by decide +kernel
theorem dJ9_floorMod_7cf53_3 : decode cJ9_floorMod_7cf53 3 = .ok (.istore_n 2, 1) := by decide +kernel
theorem dJ9_floorMod_7cf53_4 : decode cJ9_floorMod_7cf53 4 = .ok (.iload_n 0, 1) := by decide +kernel
theorem dJ9_floorMod_7cf53_5 : decode cJ9_floorMod_7cf53 5 = .ok (.iload_n 1, 1) := by decide +kernel
theorem dJ9_floorMod_7cf53_6 : decode cJ9_floorMod_7cf53 6 = .ok (.ixor, 1) := by decide +kernel
theorem dJ9_floorMod_7cf53_7 : decode cJ9_floorMod_7cf53 7 = .ok (.ifCond .ge 11, 3) := by decide +kernel
theorem dJ9_floorMod_7cf53_10 : decode cJ9_floorMod_7cf53 10 = .ok (.iload_n 2, 1) := by decide +kernel
theorem dJ9_floorMod_7cf53_11 : decode cJ9_floorMod_7cf53 11 = .ok (.ifCond .eq 7, 3) := by decide +kernel
theorem dJ9_floorMod_7cf53_14 : decode cJ9_floorMod_7cf53 14 = .ok (.iload_n 2, 1) := by decide +kernel
theorem dJ9_floorMod_7cf53_15 : decode cJ9_floorMod_7cf53 15 = .ok (.iload_n 1, 1) := by decide +kernel
theorem dJ9_floorMod_7cf53_16 : decode cJ9_floorMod_7cf53 16 = .ok (.iadd, 1) := by decide +kernel
theorem dJ9_floorMod_7cf53_17 : decode cJ9_floorMod_7cf53 17 = .ok (.ireturn, 1) := by decide +kernel
theorem dJ9_floorMod_7cf53_18 : decode cJ9_floorMod_7cf53 18 = .ok (.iload_n 2, 1) := by decide +kernel
theorem dJ9_floorMod_7cf53_19 : decode cJ9_floorMod_7cf53 19 = .ok (.ireturn, 1) := by decide +kernel
theorem dJ9_abs_0f7a4_0 : decode cJ9_abs_0f7a4 0 = .ok (.iload_n 0, 1) := by decide +kernel
theorem dJ9_abs_0f7a4_1 : decode cJ9_abs_0f7a4 1 = .ok (.ifCond .ge 8, 3) := by decide +kernel
theorem dJ9_abs_0f7a4_4 : decode cJ9_abs_0f7a4 4 = .ok (.iload_n 0, 1) := by decide +kernel
theorem dJ9_abs_0f7a4_5 : decode cJ9_abs_0f7a4 5 = .ok (.ineg, 1) := by decide +kernel
theorem dJ9_abs_0f7a4_6 : decode cJ9_abs_0f7a4 6 = .ok (.goto 4, 3) := by decide +kernel
theorem dJ9_abs_0f7a4_9 : decode cJ9_abs_0f7a4 9 = .ok (.iload_n 0, 1) := by decide +kernel
theorem dJ9_abs_0f7a4_10 : decode cJ9_abs_0f7a4 10 = .ok (.ireturn, 1) := by decide +kernel
theorem dJ9_max_7cf53_0 : decode cJ9_max_7cf53 0 = .ok (.iload_n 0, 1) := by decide +kernel
theorem dJ9_max_7cf53_1 : decode cJ9_max_7cf53 1 = .ok (.iload_n 1, 1) := by decide +kernel
theorem dJ9_max_7cf53_2 : decode cJ9_max_7cf53 2 = .ok (.if_icmp .lt 7, 3) := by decide +kernel
theorem dJ9_max_7cf53_5 : decode cJ9_max_7cf53 5 = .ok (.iload_n 0, 1) := by decide +kernel
theorem dJ9_max_7cf53_6 : decode cJ9_max_7cf53 6 = .ok (.goto 4, 3) := by decide +kernel
theorem dJ9_max_7cf53_9 : decode cJ9_max_7cf53 9 = .ok (.iload_n 1, 1) := by decide +kernel
theorem dJ9_max_7cf53_10 : decode cJ9_max_7cf53 10 = .ok (.ireturn, 1) := by decide +kernel
theorem dJ9_min_7cf53_0 : decode cJ9_min_7cf53 0 = .ok (.iload_n 0, 1) := by decide +kernel
theorem dJ9_min_7cf53_1 : decode cJ9_min_7cf53 1 = .ok (.iload_n 1, 1) := by decide +kernel
theorem dJ9_min_7cf53_2 : decode cJ9_min_7cf53 2 = .ok (.if_icmp .gt 7, 3) := by decide +kernel
theorem dJ9_min_7cf53_5 : decode cJ9_min_7cf53 5 = .ok (.iload_n 0, 1) := by decide +kernel
theorem dJ9_min_7cf53_6 : decode cJ9_min_7cf53 6 = .ok (.goto 4, 3) := by decide +kernel
theorem dJ9_min_7cf53_9 : decode cJ9_min_7cf53 9 = .ok (.iload_n 1, 1) := by decide +kernel
theorem dJ9_min_7cf53_10 : decode cJ9_min_7cf53 10 = .ok (.ireturn, 1) := by decide +kernel
theorem dX1_init_0 : decode cX1_init 0 = .ok (.aload_n 0, 1) := by decide +kernel
theorem dX1_init_1 : decode cX1_init 1 = .ok (.invokespecial 1, 3) := by decide +kernel
theorem dX1_init_4 : decode cX1_init 4 = .ok (.return_, 1) := by decide +kernel
theorem dX1_copy_0 : decode cX1_copy 0 = .ok (.aload_n 0, 1) := by decide +kernel
theorem dX1_copy_1 : decode cX1_copy 1 = .ok (.aload_n 1, 1) := by decide +kernel
theorem dX1_copy_2 : decode cX1_copy 2 = .ok (.getfield 7, 3) := by decide +kernel
theorem dX1_copy_5 : decode cX1_copy 5 = .ok (.putfield 7, 3) := by decide +kernel
theorem dX1_copy_8 : decode cX1_copy 8 = .ok (.aload_n 0, 1) := by decide +kernel
theorem dX1_copy_9 : decode cX1_copy 9 = .ok (.aload_n 1, 1) := by decide +kernel
theorem dX1_copy_10 : decode cX1_copy 10 = .ok (.getfield 13, 3) := by decide +kernel
theorem dX1_copy_13 : decode cX1_copy 13 = .ok (.putfield 13, 3) := by decide +kernel
theorem dX1_copy_16 : decode cX1_copy 16 = .ok (.aload_n 0, 1) := by decide +kernel
theorem dX1_copy_17 : decode cX1_copy 17 = .ok (.aload_n 1, 1) := by decide +kernel
theorem dX1_copy_18 : decode cX1_copy 18 = .ok (.getfield 16, 3) := by decide +kernel
theorem dX1_copy_21 : decode cX1_copy 21 = .ok (.putfield 16, 3) := by decide +kernel
theorem dX1_copy_24 : decode cX1_copy 24 = .ok (.aload_n 0, 1) := by decide +kernel
theorem dX1_copy_25 : decode cX1_copy 25 = .ok (.aload_n 1, 1) := by decide +kernel
theorem dX1_copy_26 : decode cX1_copy 26 = .ok (.getfield 19, 3) := by decide +kernel
theorem dX1_copy_29 : decode cX1_copy 29 = .ok (.putfield 19, 3) := by decide +kernel
theorem dX1_copy_32 : decode cX1_copy 32 = .ok (.aload_n 0, 1) := by decide +kernel
theorem dX1_copy_33 : decode cX1_copy 33 = .ok (.aload_n 1, 1) := by decide +kernel
theorem dX1_copy_34 : decode cX1_copy 34 = .ok (.getfield 23, 3) := by decide +kernel
theorem dX1_copy_37 : decode cX1_copy 37 = .ok (.putfield 23, 3) := by decide +kernel
theorem dX1_copy_40 : decode cX1_copy 40 = .ok (.aload_n 0, 1) := by decide +kernel
theorem dX1_copy_41 : decode cX1_copy 41 = .ok (.aload_n 1, 1) := by decide +kernel
theorem dX1_copy_42 : decode cX1_copy 42 = .ok (.getfield 26, 3) := by decide +kernel
theorem dX1_copy_45 : decode cX1_copy 45 = .ok (.putfield 26, 3) := by decide +kernel
theorem dX1_copy_48 : decode cX1_copy 48 = .ok (.return_, 1) := by decide +kernel
theorem dX1_fact_0 : decode cX1_fact 0 = .ok (.iload_n 1, 1) := by decide +kernel
theorem dX1_fact_1 : decode cX1_fact 1 = .ok (.tableswitch 59 0 3 #[31, 36, 41, 46], 31) := by decide +kernel
theorem dX1_fact_32 : decode cX1_fact 32 = .ok (.aload_n 0, 1) := by decide +kernel
theorem dX1_fact_33 : decode cX1_fact 33 = .ok (.getfield 7, 3) := by decide +kernel
theorem dX1_fact_36 : decode cX1_fact 36 = .ok (.ireturn, 1) := by decide +kernel
theorem dX1_fact_37 : decode cX1_fact 37 = .ok (.aload_n 0, 1) := by decide +kernel
theorem dX1_fact_38 : decode cX1_fact 38 = .ok (.getfield 13, 3) := by decide +kernel
theorem dX1_fact_41 : decode cX1_fact 41 = .ok (.ireturn, 1) := by decide +kernel
theorem dX1_fact_42 : decode cX1_fact 42 = .ok (.aload_n 0, 1) := by decide +kernel
theorem dX1_fact_43 : decode cX1_fact 43 = .ok (.getfield 16, 3) := by decide +kernel
theorem dX1_fact_46 : decode cX1_fact 46 = .ok (.ireturn, 1) := by decide +kernel
theorem dX1_fact_47 : decode cX1_fact 47 = .ok (.aload_n 0, 1) := by decide +kernel
theorem dX1_fact_48 : decode cX1_fact 48 = .ok (.getfield 19, 3) := by decide +kernel
theorem dX1_fact_51 : decode cX1_fact 51 = .ok (.ifCond .eq 7, 3) := by decide +kernel
theorem dX1_fact_54 : decode cX1_fact 54 = .ok (.iconst 1, 1) := by decide +kernel
theorem dX1_fact_55 : decode cX1_fact 55 = .ok (.goto 4, 3) := by decide +kernel
theorem dX1_fact_58 : decode cX1_fact 58 = .ok (.iconst 0, 1) := by decide +kernel
theorem dX1_fact_59 : decode cX1_fact 59 = .ok (.ireturn, 1) := by decide +kernel
theorem dX1_fact_60 : decode cX1_fact 60 = .ok (.aload_n 0, 1) := by decide +kernel
theorem dX1_fact_61 : decode cX1_fact 61 = .ok (.getfield 23, 3) := by decide +kernel
theorem dX1_fact_64 : decode cX1_fact 64 = .ok (.ireturn, 1) := by decide +kernel
theorem dX1_evenOut_0 : decode cX1_evenOut 0 = .ok (.aload_n 1, 1) := by decide +kernel
theorem dX1_evenOut_1 : decode cX1_evenOut 1 = .ok (.getfield 29, 3) := by decide +kernel
theorem dX1_evenOut_4 : decode cX1_evenOut 4 = .ok (.aload_n 2, 1) := by decide +kernel
theorem dX1_evenOut_5 : decode cX1_evenOut 5 = .ok (.getfield 29, 3) := by decide +kernel
theorem dX1_evenOut_8 : decode cX1_evenOut 8 = .ok (.iadd, 1) := by decide +kernel
theorem dX1_evenOut_9 : decode cX1_evenOut 9 = .ok (.istore_n 3, 1) := by decide +kernel
theorem dX1_evenOut_10 : decode cX1_evenOut 10 = .ok (.iload_n 3, 1) := by decide +kernel
theorem dX1_evenOut_11 : decode cX1_evenOut 11 = .ok (.ifCond .gt 4, 3) := by decide +kernel
theorem dX1_evenOut_14 : decode cX1_evenOut 14 = .ok (.return_, 1) := by decide +kernel
theorem dX1_evenOut_15 : decode cX1_evenOut 15 = .ok (.aload_n 1, 1) := by decide +kernel
theorem dX1_evenOut_16 : decode cX1_evenOut 16 = .ok (.getfield 34, 3) := by decide +kernel
theorem dX1_evenOut_19 : decode cX1_evenOut 19 = .ok (.aload_n 2, 1) := by decide +kernel
theorem dX1_evenOut_20 : decode cX1_evenOut 20 = .ok (.getfield 29, 3) := by decide +kernel
theorem dX1_evenOut_23 : decode cX1_evenOut 23 = .ok (.imul, 1) := by decide +kernel
theorem dX1_evenOut_24 : decode cX1_evenOut 24 = .ok (.aload_n 2, 1) := by decide +kernel
theorem dX1_evenOut_25 : decode cX1_evenOut 25 = .ok (.getfield 34, 3) := by decide +kernel
theorem dX1_evenOut_28 : decode cX1_evenOut 28 = .ok (.aload_n 1, 1) := by decide +kernel
theorem dX1_evenOut_29 : decode cX1_evenOut 29 = .ok (.getfield 29, 3) := by decide +kernel
theorem dX1_evenOut_32 : decode cX1_evenOut 32 = .ok (.imul, 1) := by decide +kernel
theorem dX1_evenOut_33 : decode cX1_evenOut 33 = .ok (.isub, 1) := by decide +kernel
theorem dX1_evenOut_34 : decode cX1_evenOut 34 = .ok (.iload_n 3, 1) := by decide +kernel
theorem dX1_evenOut_35 : decode cX1_evenOut 35 = .ok (.idiv, 1) := by decide +kernel
theorem dX1_evenOut_36 : decode cX1_evenOut 36 = .ok (.istore 4, 2) := by decide +kernel
theorem dX1_evenOut_38 : decode cX1_evenOut 38 = .ok (.aload_n 0, 1) := by decide +kernel
theorem dX1_evenOut_39 : decode cX1_evenOut 39 = .ok (.getfield 16, 3) := by decide +kernel
theorem dX1_evenOut_42 : decode cX1_evenOut 42 = .ok (.ineg, 1) := by decide +kernel
theorem dX1_evenOut_43 : decode cX1_evenOut 43 = .ok (.aload_n 0, 1) := by decide +kernel
theorem dX1_evenOut_44 : decode cX1_evenOut 44 = .ok (.getfield 16, 3) := by decide +kernel
theorem dX1_evenOut_47 : decode cX1_evenOut 47 = .ok (.iload 4, 2) := by decide +kernel
theorem dX1_evenOut_49 : decode cX1_evenOut 49 = .ok (.invokestatic 37, 3) := by decide +kernel
theorem dX1_evenOut_52 : decode cX1_evenOut 52 = .ok (.invokestatic 43, 3) := by decide +kernel
theorem dX1_evenOut_55 : decode cX1_evenOut 55 = .ok (.istore 5, 2) := by decide +kernel
theorem dX1_evenOut_57 : decode cX1_evenOut 57 = .ok (.aload_n 1, 1) := by decide +kernel
theorem dX1_evenOut_58 : decode cX1_evenOut 58 = .ok (.dup, 1) := by decide +kernel
theorem dX1_evenOut_59 : decode cX1_evenOut 59 = .ok (.getfield 34, 3) := by decide +kernel
theorem dX1_evenOut_62 : decode cX1_evenOut 62 = .ok (.iload 5, 2) := by decide +kernel
theorem dX1_evenOut_64 : decode cX1_evenOut 64 = .ok (.isub, 1) := by decide +kernel
theorem dX1_evenOut_65 : decode cX1_evenOut 65 = .ok (.putfield 34, 3) := by decide +kernel
theorem dX1_evenOut_68 : decode cX1_evenOut 68 = .ok (.aload_n 2, 1) := by decide +kernel
theorem dX1_evenOut_69 : decode cX1_evenOut 69 = .ok (.dup, 1) := by decide +kernel
theorem dX1_evenOut_70 : decode cX1_evenOut 70 = .ok (.getfield 34, 3) := by decide +kernel
theorem dX1_evenOut_73 : decode cX1_evenOut 73 = .ok (.iload 5, 2) := by decide +kernel
theorem dX1_evenOut_75 : decode cX1_evenOut 75 = .ok (.iadd, 1) := by decide +kernel
theorem dX1_evenOut_76 : decode cX1_evenOut 76 = .ok (.putfield 34, 3) := by decide +kernel
theorem dX1_evenOut_79 : decode cX1_evenOut 79 = .ok (.aload_n 0, 1) := by decide +kernel
theorem dX1_evenOut_80 : decode cX1_evenOut 80 = .ok (.dup, 1) := by decide +kernel
theorem dX1_evenOut_81 : decode cX1_evenOut 81 = .ok (.getfield 26, 3) := by decide +kernel
theorem dX1_evenOut_84 : decode cX1_evenOut 84 = .ok (.iload 5, 2) := by decide +kernel
theorem dX1_evenOut_86 : decode cX1_evenOut 86 = .ok (.iadd, 1) := by decide +kernel
theorem dX1_evenOut_87 : decode cX1_evenOut 87 = .ok (.putfield 26, 3) := by decide +kernel
theorem dX1_evenOut_90 : decode cX1_evenOut 90 = .ok (.aload_n 0, 1) := by decide +kernel
theorem dX1_evenOut_91 : decode cX1_evenOut 91 = .ok (.dup, 1) := by decide +kernel
theorem dX1_evenOut_92 : decode cX1_evenOut 92 = .ok (.getfield 23, 3) := by decide +kernel
theorem dX1_evenOut_95 : decode cX1_evenOut 95 = .ok (.iload 5, 2) := by decide +kernel
theorem dX1_evenOut_97 : decode cX1_evenOut 97 = .ok (.invokestatic 46, 3) := by decide +kernel
theorem dX1_evenOut_100 : decode cX1_evenOut 100 = .ok (.iadd, 1) := by decide +kernel
theorem dX1_evenOut_101 : decode cX1_evenOut 101 = .ok (.putfield 23, 3) := by decide +kernel
theorem dX1_evenOut_104 : decode cX1_evenOut 104 = .ok (.return_, 1) := by decide +kernel
theorem dX1_debt_0 : decode cX1_debt 0 = .ok (.iload_n 1, 1) := by decide +kernel
theorem dX1_debt_1 : decode cX1_debt 1 = .ok (.aload_n 0, 1) := by decide +kernel
theorem dX1_debt_2 : decode cX1_debt 2 = .ok (.getfield 13, 3) := by decide +kernel
theorem dX1_debt_5 : decode cX1_debt 5 = .ok (.if_icmp .ne 16, 3) := by decide +kernel
theorem dX1_debt_8 : decode cX1_debt 8 = .ok (.iload_n 2, 1) := by decide +kernel
theorem dX1_debt_9 : decode cX1_debt 9 = .ok (.aload_n 0, 1) := by decide +kernel
theorem dX1_debt_10 : decode cX1_debt 10 = .ok (.getfield 7, 3) := by decide +kernel
theorem dX1_debt_13 : decode cX1_debt 13 = .ok (.if_icmp .ne 8, 3) := by decide +kernel
theorem dX1_debt_16 : decode cX1_debt 16 = .ok (.aload_n 0, 1) := by decide +kernel
theorem dX1_debt_17 : decode cX1_debt 17 = .ok (.getfield 26, 3) := by decide +kernel
theorem dX1_debt_20 : decode cX1_debt 20 = .ok (.ireturn, 1) := by decide +kernel
theorem dX1_debt_21 : decode cX1_debt 21 = .ok (.iload_n 1, 1) := by decide +kernel
theorem dX1_debt_22 : decode cX1_debt 22 = .ok (.aload_n 0, 1) := by decide +kernel
theorem dX1_debt_23 : decode cX1_debt 23 = .ok (.getfield 7, 3) := by decide +kernel
theorem dX1_debt_26 : decode cX1_debt 26 = .ok (.if_icmp .ne 19, 3) := by decide +kernel
theorem dX1_debt_29 : decode cX1_debt 29 = .ok (.iload_n 2, 1) := by decide +kernel
theorem dX1_debt_30 : decode cX1_debt 30 = .ok (.aload_n 0, 1) := by decide +kernel
theorem dX1_debt_31 : decode cX1_debt 31 = .ok (.getfield 13, 3) := by decide +kernel
theorem dX1_debt_34 : decode cX1_debt 34 = .ok (.if_icmp .ne 11, 3) := by decide +kernel
theorem dX1_debt_37 : decode cX1_debt 37 = .ok (.aload_n 0, 1) := by decide +kernel
theorem dX1_debt_38 : decode cX1_debt 38 = .ok (.getfield 26, 3) := by decide +kernel
theorem dX1_debt_41 : decode cX1_debt 41 = .ok (.ineg, 1) := by decide +kernel
theorem dX1_debt_42 : decode cX1_debt 42 = .ok (.goto 4, 3) := by decide +kernel
theorem dX1_debt_45 : decode cX1_debt 45 = .ok (.iconst 0, 1) := by decide +kernel
theorem dX1_debt_46 : decode cX1_debt 46 = .ok (.ireturn, 1) := by decide +kernel
theorem dX2_init_0 : decode cX2_init 0 = .ok (.aload_n 0, 1) := by decide +kernel
theorem dX2_init_1 : decode cX2_init 1 = .ok (.invokespecial 3, 3) := by decide +kernel
theorem dX2_init_4 : decode cX2_init 4 = .ok (.aload_n 0, 1) := by decide +kernel
theorem dX2_init_5 : decode cX2_init 5 = .ok (.bipush 10, 2) := by decide +kernel
theorem dX2_init_7 : decode cX2_init 7 = .ok (.anewarray 11, 3) := by decide +kernel
theorem dX2_init_10 : decode cX2_init 10 = .ok (.putfield 13, 3) := by decide +kernel
theorem dX2_init_13 : decode cX2_init 13 = .ok (.aload_n 0, 1) := by decide +kernel
theorem dX2_init_14 : decode cX2_init 14 = .ok (.bipush 12, 2) := by decide +kernel
theorem dX2_init_16 : decode cX2_init 16 = .ok (.anewarray 17, 3) := by decide +kernel
theorem dX2_init_19 : decode cX2_init 19 = .ok (.putfield 19, 3) := by decide +kernel
theorem dX2_init_22 : decode cX2_init 22 = .ok (.aload_n 0, 1) := by decide +kernel
theorem dX2_init_23 : decode cX2_init 23 = .ok (.aload_n 1, 1) := by decide +kernel
theorem dX2_init_24 : decode cX2_init 24 = .ok (.putfield 23, 3) := by decide +kernel
theorem dX2_init_27 : decode cX2_init 27 = .ok (.iconst 0, 1) := by decide +kernel
theorem dX2_init_28 : decode cX2_init 28 = .ok (.istore_n 2, 1) := by decide +kernel
theorem dX2_init_29 : decode cX2_init 29 = .ok (.iload_n 2, 1) := by decide +kernel
theorem dX2_init_30 : decode cX2_init 30 = .ok (.bipush 10, 2) := by decide +kernel
theorem dX2_init_32 : decode cX2_init 32 = .ok (.if_icmp .ge 22, 3) := by decide +kernel
theorem dX2_init_35 : decode cX2_init 35 = .ok (.aload_n 0, 1) := by decide +kernel
theorem dX2_init_36 : decode cX2_init 36 = .ok (.getfield 13, 3) := by decide +kernel
theorem dX2_init_39 : decode cX2_init 39 = .ok (.iload_n 2, 1) := by decide +kernel
theorem dX2_init_40 : decode cX2_init 40 = .ok (.new 11, 3) := by decide +kernel
theorem dX2_init_43 : decode cX2_init 43 = .ok (.dup, 1) := by decide +kernel
theorem dX2_init_44 : decode cX2_init 44 = .ok (.invokespecial 27, 3) := by decide +kernel
theorem dX2_init_47 : decode cX2_init 47 = .ok (.aastore, 1) := by decide +kernel
theorem dX2_init_48 : decode cX2_init 48 = .ok (.iinc 2 1, 3) := by decide +kernel
theorem dX2_init_51 : decode cX2_init 51 = .ok (.goto (-22), 3) := by decide +kernel
theorem dX2_init_54 : decode cX2_init 54 = .ok (.iconst 0, 1) := by decide +kernel
theorem dX2_init_55 : decode cX2_init 55 = .ok (.istore_n 2, 1) := by decide +kernel
theorem dX2_init_56 : decode cX2_init 56 = .ok (.iload_n 2, 1) := by decide +kernel
theorem dX2_init_57 : decode cX2_init 57 = .ok (.bipush 12, 2) := by decide +kernel
theorem dX2_init_59 : decode cX2_init 59 = .ok (.if_icmp .ge 22, 3) := by decide +kernel
theorem dX2_init_62 : decode cX2_init 62 = .ok (.aload_n 0, 1) := by decide +kernel
theorem dX2_init_63 : decode cX2_init 63 = .ok (.getfield 19, 3) := by decide +kernel
theorem dX2_init_66 : decode cX2_init 66 = .ok (.iload_n 2, 1) := by decide +kernel
theorem dX2_init_67 : decode cX2_init 67 = .ok (.new 17, 3) := by decide +kernel
theorem dX2_init_70 : decode cX2_init 70 = .ok (.dup, 1) := by decide +kernel
theorem dX2_init_71 : decode cX2_init 71 = .ok (.invokespecial 28, 3) := by decide +kernel
theorem dX2_init_74 : decode cX2_init 74 = .ok (.aastore, 1) := by decide +kernel
theorem dX2_init_75 : decode cX2_init 75 = .ok (.iinc 2 1, 3) := by decide +kernel
theorem dX2_init_78 : decode cX2_init 78 = .ok (.goto (-22), 3) := by decide +kernel
theorem dX2_init_81 : decode cX2_init 81 = .ok (.return_, 1) := by decide +kernel
theorem dX2_copy_0 : decode cX2_copy 0 = .ok (.aload_n 0, 1) := by decide +kernel
theorem dX2_copy_1 : decode cX2_copy 1 = .ok (.aload_n 1, 1) := by decide +kernel
theorem dX2_copy_2 : decode cX2_copy 2 = .ok (.getfield 29, 3) := by decide +kernel
theorem dX2_copy_5 : decode cX2_copy 5 = .ok (.putfield 29, 3) := by decide +kernel
theorem dX2_copy_8 : decode cX2_copy 8 = .ok (.aload_n 0, 1) := by decide +kernel
theorem dX2_copy_9 : decode cX2_copy 9 = .ok (.aload_n 1, 1) := by decide +kernel
theorem dX2_copy_10 : decode cX2_copy 10 = .ok (.getfield 33, 3) := by decide +kernel
theorem dX2_copy_13 : decode cX2_copy 13 = .ok (.putfield 33, 3) := by decide +kernel
theorem dX2_copy_16 : decode cX2_copy 16 = .ok (.aload_n 0, 1) := by decide +kernel
theorem dX2_copy_17 : decode cX2_copy 17 = .ok (.aload_n 1, 1) := by decide +kernel
theorem dX2_copy_18 : decode cX2_copy 18 = .ok (.getfield 36, 3) := by decide +kernel
theorem dX2_copy_21 : decode cX2_copy 21 = .ok (.putfield 36, 3) := by decide +kernel
theorem dX2_copy_24 : decode cX2_copy 24 = .ok (.aload_n 0, 1) := by decide +kernel
theorem dX2_copy_25 : decode cX2_copy 25 = .ok (.aload_n 1, 1) := by decide +kernel
theorem dX2_copy_26 : decode cX2_copy 26 = .ok (.getfield 39, 3) := by decide +kernel
theorem dX2_copy_29 : decode cX2_copy 29 = .ok (.putfield 39, 3) := by decide +kernel
theorem dX2_copy_32 : decode cX2_copy 32 = .ok (.aload_n 0, 1) := by decide +kernel
theorem dX2_copy_33 : decode cX2_copy 33 = .ok (.aload_n 1, 1) := by decide +kernel
theorem dX2_copy_34 : decode cX2_copy 34 = .ok (.getfield 42, 3) := by decide +kernel
theorem dX2_copy_37 : decode cX2_copy 37 = .ok (.putfield 42, 3) := by decide +kernel
theorem dX2_copy_40 : decode cX2_copy 40 = .ok (.aload_n 0, 1) := by decide +kernel
theorem dX2_copy_41 : decode cX2_copy 41 = .ok (.aload_n 1, 1) := by decide +kernel
theorem dX2_copy_42 : decode cX2_copy 42 = .ok (.getfield 45, 3) := by decide +kernel
theorem dX2_copy_45 : decode cX2_copy 45 = .ok (.putfield 45, 3) := by decide +kernel
theorem dX2_copy_48 : decode cX2_copy 48 = .ok (.aload_n 0, 1) := by decide +kernel
theorem dX2_copy_49 : decode cX2_copy 49 = .ok (.aload_n 1, 1) := by decide +kernel
theorem dX2_copy_50 : decode cX2_copy 50 = .ok (.getfield 48, 3) := by decide +kernel
theorem dX2_copy_53 : decode cX2_copy 53 = .ok (.putfield 48, 3) := by decide +kernel
theorem dX2_copy_56 : decode cX2_copy 56 = .ok (.iconst 0, 1) := by decide +kernel
theorem dX2_copy_57 : decode cX2_copy 57 = .ok (.istore_n 2, 1) := by decide +kernel
theorem dX2_copy_58 : decode cX2_copy 58 = .ok (.iload_n 2, 1) := by decide +kernel
theorem dX2_copy_59 : decode cX2_copy 59 = .ok (.aload_n 0, 1) := by decide +kernel
theorem dX2_copy_60 : decode cX2_copy 60 = .ok (.getfield 29, 3) := by decide +kernel
theorem dX2_copy_63 : decode cX2_copy 63 = .ok (.if_icmp .ge 24, 3) := by decide +kernel
theorem dX2_copy_66 : decode cX2_copy 66 = .ok (.aload_n 0, 1) := by decide +kernel
theorem dX2_copy_67 : decode cX2_copy 67 = .ok (.getfield 13, 3) := by decide +kernel
theorem dX2_copy_70 : decode cX2_copy 70 = .ok (.iload_n 2, 1) := by decide +kernel
theorem dX2_copy_71 : decode cX2_copy 71 = .ok (.aaload, 1) := by decide +kernel
theorem dX2_copy_72 : decode cX2_copy 72 = .ok (.aload_n 1, 1) := by decide +kernel
theorem dX2_copy_73 : decode cX2_copy 73 = .ok (.getfield 13, 3) := by decide +kernel
theorem dX2_copy_76 : decode cX2_copy 76 = .ok (.iload_n 2, 1) := by decide +kernel
theorem dX2_copy_77 : decode cX2_copy 77 = .ok (.aaload, 1) := by decide +kernel
theorem dX2_copy_78 : decode cX2_copy 78 = .ok (.invokevirtual 51, 3) := by decide +kernel
theorem dX2_copy_81 : decode cX2_copy 81 = .ok (.iinc 2 1, 3) := by decide +kernel
theorem dX2_copy_84 : decode cX2_copy 84 = .ok (.goto (-26), 3) := by decide +kernel
theorem dX2_copy_87 : decode cX2_copy 87 = .ok (.iconst 0, 1) := by decide +kernel
theorem dX2_copy_88 : decode cX2_copy 88 = .ok (.istore_n 2, 1) := by decide +kernel
theorem dX2_copy_89 : decode cX2_copy 89 = .ok (.iload_n 2, 1) := by decide +kernel
theorem dX2_copy_90 : decode cX2_copy 90 = .ok (.aload_n 0, 1) := by decide +kernel
theorem dX2_copy_91 : decode cX2_copy 91 = .ok (.getfield 33, 3) := by decide +kernel
theorem dX2_copy_94 : decode cX2_copy 94 = .ok (.if_icmp .ge 24, 3) := by decide +kernel
theorem dX2_copy_97 : decode cX2_copy 97 = .ok (.aload_n 0, 1) := by decide +kernel
theorem dX2_copy_98 : decode cX2_copy 98 = .ok (.getfield 19, 3) := by decide +kernel
theorem dX2_copy_101 : decode cX2_copy 101 = .ok (.iload_n 2, 1) := by decide +kernel
theorem dX2_copy_102 : decode cX2_copy 102 = .ok (.aaload, 1) := by decide +kernel
theorem dX2_copy_103 : decode cX2_copy 103 = .ok (.aload_n 1, 1) := by decide +kernel
theorem dX2_copy_104 : decode cX2_copy 104 = .ok (.getfield 19, 3) := by decide +kernel
theorem dX2_copy_107 : decode cX2_copy 107 = .ok (.iload_n 2, 1) := by decide +kernel
theorem dX2_copy_108 : decode cX2_copy 108 = .ok (.aaload, 1) := by decide +kernel
theorem dX2_copy_109 : decode cX2_copy 109 = .ok (.invokevirtual 55, 3) := by decide +kernel
theorem dX2_copy_112 : decode cX2_copy 112 = .ok (.iinc 2 1, 3) := by decide +kernel
theorem dX2_copy_115 : decode cX2_copy 115 = .ok (.goto (-26), 3) := by decide +kernel
theorem dX2_copy_118 : decode cX2_copy 118 = .ok (.return_, 1) := by decide +kernel
theorem dX2_hasHouse_0 : decode cX2_hasHouse 0 = .ok (.iload_n 1, 1) := by decide +kernel
theorem dX2_hasHouse_1 : decode cX2_hasHouse 1 = .ok (.ifCond .lt 15, 3) := by decide +kernel
theorem dX2_hasHouse_4 : decode cX2_hasHouse 4 = .ok (.iload_n 1, 1) := by decide +kernel
theorem dX2_hasHouse_5 : decode cX2_hasHouse 5 = .ok (.aload_n 0, 1) := by decide +kernel
theorem dX2_hasHouse_6 : decode cX2_hasHouse 6 = .ok (.getfield 29, 3) := by decide +kernel
theorem dX2_hasHouse_9 : decode cX2_hasHouse 9 = .ok (.if_icmp .ge 7, 3) := by decide +kernel
theorem dX2_hasHouse_12 : decode cX2_hasHouse 12 = .ok (.iconst 1, 1) := by decide +kernel
theorem dX2_hasHouse_13 : decode cX2_hasHouse 13 = .ok (.goto 4, 3) := by decide +kernel
theorem dX2_hasHouse_16 : decode cX2_hasHouse 16 = .ok (.iconst 0, 1) := by decide +kernel
theorem dX2_hasHouse_17 : decode cX2_hasHouse 17 = .ok (.ireturn, 1) := by decide +kernel
theorem dX2_hasPipe_0 : decode cX2_hasPipe 0 = .ok (.iload_n 1, 1) := by decide +kernel
theorem dX2_hasPipe_1 : decode cX2_hasPipe 1 = .ok (.ifCond .lt 15, 3) := by decide +kernel
theorem dX2_hasPipe_4 : decode cX2_hasPipe 4 = .ok (.iload_n 1, 1) := by decide +kernel
theorem dX2_hasPipe_5 : decode cX2_hasPipe 5 = .ok (.aload_n 0, 1) := by decide +kernel
theorem dX2_hasPipe_6 : decode cX2_hasPipe 6 = .ok (.getfield 33, 3) := by decide +kernel
theorem dX2_hasPipe_9 : decode cX2_hasPipe 9 = .ok (.if_icmp .ge 7, 3) := by decide +kernel
theorem dX2_hasPipe_12 : decode cX2_hasPipe 12 = .ok (.iconst 1, 1) := by decide +kernel
theorem dX2_hasPipe_13 : decode cX2_hasPipe 13 = .ok (.goto 4, 3) := by decide +kernel
theorem dX2_hasPipe_16 : decode cX2_hasPipe 16 = .ok (.iconst 0, 1) := by decide +kernel
theorem dX2_hasPipe_17 : decode cX2_hasPipe 17 = .ok (.ireturn, 1) := by decide +kernel
theorem dX2_addHouse_0 : decode cX2_addHouse 0 = .ok (.aload_n 0, 1) := by decide +kernel
theorem dX2_addHouse_1 : decode cX2_addHouse 1 = .ok (.getfield 13, 3) := by decide +kernel
theorem dX2_addHouse_4 : decode cX2_addHouse 4 = .ok (.aload_n 0, 1) := by decide +kernel
theorem dX2_addHouse_5 : decode cX2_addHouse 5 = .ok (.getfield 29, 3) := by decide +kernel
theorem dX2_addHouse_8 : decode cX2_addHouse 8 = .ok (.aaload, 1) := by decide +kernel
theorem dX2_addHouse_9 : decode cX2_addHouse 9 = .ok (.astore 5, 2) := by decide +kernel
theorem dX2_addHouse_11 : decode cX2_addHouse 11 = .ok (.aload 5, 2) := by decide +kernel
theorem dX2_addHouse_13 : decode cX2_addHouse 13 = .ok (.iload_n 1, 1) := by decide +kernel
theorem dX2_addHouse_14 : decode cX2_addHouse 14 = .ok (.putfield 58, 3) := by decide +kernel
theorem dX2_addHouse_17 : decode cX2_addHouse 17 = .ok (.aload 5, 2) := by decide +kernel
theorem dX2_addHouse_19 : decode cX2_addHouse 19 = .ok (.iload_n 2, 1) := by decide +kernel
theorem dX2_addHouse_20 : decode cX2_addHouse 20 = .ok (.putfield 61, 3) := by decide +kernel
theorem dX2_addHouse_23 : decode cX2_addHouse 23 = .ok (.aload 5, 2) := by decide +kernel
theorem dX2_addHouse_25 : decode cX2_addHouse 25 = .ok (.iload_n 3, 1) := by decide +kernel
theorem dX2_addHouse_26 : decode cX2_addHouse 26 = .ok (.putfield 64, 3) := by decide +kernel
theorem dX2_addHouse_29 : decode cX2_addHouse 29 = .ok (.aload 5, 2) := by decide +kernel
theorem dX2_addHouse_31 : decode cX2_addHouse 31 = .ok (.iload 4, 2) := by decide +kernel
theorem dX2_addHouse_33 : decode cX2_addHouse 33 = .ok (.putfield 67, 3) := by decide +kernel
theorem dX2_addHouse_36 : decode cX2_addHouse 36 = .ok (.aload_n 0, 1) := by decide +kernel
theorem dX2_addHouse_37 : decode cX2_addHouse 37 = .ok (.dup, 1) := by decide +kernel
theorem dX2_addHouse_38 : decode cX2_addHouse 38 = .ok (.getfield 29, 3) := by decide +kernel
theorem dX2_addHouse_41 : decode cX2_addHouse 41 = .ok (.dup_x1, 1) := by decide +kernel
theorem dX2_addHouse_42 : decode cX2_addHouse 42 = .ok (.iconst 1, 1) := by decide +kernel
theorem dX2_addHouse_43 : decode cX2_addHouse 43 = .ok (.iadd, 1) := by decide +kernel
theorem dX2_addHouse_44 : decode cX2_addHouse 44 = .ok (.putfield 29, 3) := by decide +kernel
theorem dX2_addHouse_47 : decode cX2_addHouse 47 = .ok (.ireturn, 1) := by decide +kernel
theorem dX2_addPipe_0 : decode cX2_addPipe 0 = .ok (.aload_n 0, 1) := by decide +kernel
theorem dX2_addPipe_1 : decode cX2_addPipe 1 = .ok (.getfield 19, 3) := by decide +kernel
theorem dX2_addPipe_4 : decode cX2_addPipe 4 = .ok (.aload_n 0, 1) := by decide +kernel
theorem dX2_addPipe_5 : decode cX2_addPipe 5 = .ok (.getfield 33, 3) := by decide +kernel
theorem dX2_addPipe_8 : decode cX2_addPipe 8 = .ok (.aaload, 1) := by decide +kernel
theorem dX2_addPipe_9 : decode cX2_addPipe 9 = .ok (.astore 4, 2) := by decide +kernel
theorem dX2_addPipe_11 : decode cX2_addPipe 11 = .ok (.aload 4, 2) := by decide +kernel
theorem dX2_addPipe_13 : decode cX2_addPipe 13 = .ok (.iload_n 1, 1) := by decide +kernel
theorem dX2_addPipe_14 : decode cX2_addPipe 14 = .ok (.putfield 70, 3) := by decide +kernel
theorem dX2_addPipe_17 : decode cX2_addPipe 17 = .ok (.aload 4, 2) := by decide +kernel
theorem dX2_addPipe_19 : decode cX2_addPipe 19 = .ok (.iload_n 2, 1) := by decide +kernel
theorem dX2_addPipe_20 : decode cX2_addPipe 20 = .ok (.putfield 73, 3) := by decide +kernel
theorem dX2_addPipe_23 : decode cX2_addPipe 23 = .ok (.aload 4, 2) := by decide +kernel
theorem dX2_addPipe_25 : decode cX2_addPipe 25 = .ok (.iload_n 3, 1) := by decide +kernel
theorem dX2_addPipe_26 : decode cX2_addPipe 26 = .ok (.putfield 76, 3) := by decide +kernel
theorem dX2_addPipe_29 : decode cX2_addPipe 29 = .ok (.aload 4, 2) := by decide +kernel
theorem dX2_addPipe_31 : decode cX2_addPipe 31 = .ok (.iconst 1, 1) := by decide +kernel
theorem dX2_addPipe_32 : decode cX2_addPipe 32 = .ok (.putfield 79, 3) := by decide +kernel
theorem dX2_addPipe_35 : decode cX2_addPipe 35 = .ok (.aload_n 0, 1) := by decide +kernel
theorem dX2_addPipe_36 : decode cX2_addPipe 36 = .ok (.dup, 1) := by decide +kernel
theorem dX2_addPipe_37 : decode cX2_addPipe 37 = .ok (.getfield 33, 3) := by decide +kernel
theorem dX2_addPipe_40 : decode cX2_addPipe 40 = .ok (.dup_x1, 1) := by decide +kernel
theorem dX2_addPipe_41 : decode cX2_addPipe 41 = .ok (.iconst 1, 1) := by decide +kernel
theorem dX2_addPipe_42 : decode cX2_addPipe 42 = .ok (.iadd, 1) := by decide +kernel
theorem dX2_addPipe_43 : decode cX2_addPipe 43 = .ok (.putfield 33, 3) := by decide +kernel
theorem dX2_addPipe_46 : decode cX2_addPipe 46 = .ok (.ireturn, 1) := by decide +kernel
theorem dX2_flowsThrough_0 : decode cX2_flowsThrough 0 = .ok (.iload_n 1, 1) := by decide +kernel
theorem dX2_flowsThrough_1 : decode cX2_flowsThrough 1 = .ok (.istore_n 3, 1) := by decide +kernel
theorem dX2_flowsThrough_2 : decode cX2_flowsThrough 2 = .ok (.iconst 0, 1) := by decide +kernel
theorem dX2_flowsThrough_3 : decode cX2_flowsThrough 3 = .ok (.istore 4, 2) := by decide +kernel
theorem dX2_flowsThrough_5 : decode cX2_flowsThrough 5 = .ok (.iload 4, 2) := by decide +kernel
theorem dX2_flowsThrough_7 : decode cX2_flowsThrough 7 = .ok (.aload_n 0, 1) := by decide +kernel
theorem dX2_flowsThrough_8 : decode cX2_flowsThrough 8 = .ok (.getfield 29, 3) := by decide +kernel
theorem dX2_flowsThrough_11 : decode cX2_flowsThrough 11 = .ok (.if_icmp .ge 34, 3) := by decide +kernel
theorem dX2_flowsThrough_14 : decode cX2_flowsThrough 14 = .ok (.aload_n 0, 1) := by decide +kernel
theorem dX2_flowsThrough_15 : decode cX2_flowsThrough 15 = .ok (.iload_n 3, 1) := by decide +kernel
theorem dX2_flowsThrough_16 : decode cX2_flowsThrough 16 = .ok (.invokevirtual 83, 3) := by decide +kernel
theorem dX2_flowsThrough_19 : decode cX2_flowsThrough 19 = .ok (.ifCond .eq 26, 3) := by decide +kernel
theorem dX2_flowsThrough_22 : decode cX2_flowsThrough 22 = .ok (.iload_n 3, 1) := by decide +kernel
theorem dX2_flowsThrough_23 : decode cX2_flowsThrough 23 = .ok (.iload_n 2, 1) := by decide +kernel
theorem dX2_flowsThrough_24 : decode cX2_flowsThrough 24 = .ok (.if_icmp .ne 5, 3) := by decide +kernel
theorem dX2_flowsThrough_27 : decode cX2_flowsThrough 27 = .ok (.iconst 1, 1) := by decide +kernel
theorem dX2_flowsThrough_28 : decode cX2_flowsThrough 28 = .ok (.ireturn, 1) := by decide +kernel
theorem dX2_flowsThrough_29 : decode cX2_flowsThrough 29 = .ok (.aload_n 0, 1) := by decide +kernel
theorem dX2_flowsThrough_30 : decode cX2_flowsThrough 30 = .ok (.getfield 13, 3) := by decide +kernel
theorem dX2_flowsThrough_33 : decode cX2_flowsThrough 33 = .ok (.iload_n 3, 1) := by decide +kernel
theorem dX2_flowsThrough_34 : decode cX2_flowsThrough 34 = .ok (.aaload, 1) := by decide +kernel
theorem dX2_flowsThrough_35 : decode cX2_flowsThrough 35 = .ok (.getfield 87, 3) := by decide +kernel
theorem dX2_flowsThrough_38 : decode cX2_flowsThrough 38 = .ok (.istore_n 3, 1) := by decide +kernel
theorem dX2_flowsThrough_39 : decode cX2_flowsThrough 39 = .ok (.iinc 4 1, 3) := by decide +kernel
theorem dX2_flowsThrough_42 : decode cX2_flowsThrough 42 = .ok (.goto (-37), 3) := by decide +kernel
theorem dX2_flowsThrough_45 : decode cX2_flowsThrough 45 = .ok (.iconst 0, 1) := by decide +kernel
theorem dX2_flowsThrough_46 : decode cX2_flowsThrough 46 = .ok (.ireturn, 1) := by decide +kernel
theorem dX2_chainLength_0 : decode cX2_chainLength 0 = .ok (.iconst 0, 1) := by decide +kernel
theorem dX2_chainLength_1 : decode cX2_chainLength 1 = .ok (.istore_n 2, 1) := by decide +kernel
theorem dX2_chainLength_2 : decode cX2_chainLength 2 = .ok (.iload_n 1, 1) := by decide +kernel
theorem dX2_chainLength_3 : decode cX2_chainLength 3 = .ok (.istore_n 3, 1) := by decide +kernel
theorem dX2_chainLength_4 : decode cX2_chainLength 4 = .ok (.iload_n 2, 1) := by decide +kernel
theorem dX2_chainLength_5 : decode cX2_chainLength 5 = .ok (.aload_n 0, 1) := by decide +kernel
theorem dX2_chainLength_6 : decode cX2_chainLength 6 = .ok (.getfield 29, 3) := by decide +kernel
theorem dX2_chainLength_9 : decode cX2_chainLength 9 = .ok (.if_icmp .ge 27, 3) := by decide +kernel
theorem dX2_chainLength_12 : decode cX2_chainLength 12 = .ok (.aload_n 0, 1) := by decide +kernel
theorem dX2_chainLength_13 : decode cX2_chainLength 13 = .ok (.iload_n 3, 1) := by decide +kernel
theorem dX2_chainLength_14 : decode cX2_chainLength 14 = .ok (.invokevirtual 83, 3) := by decide +kernel
theorem dX2_chainLength_17 : decode cX2_chainLength 17 = .ok (.ifCond .eq 19, 3) := by decide +kernel
theorem dX2_chainLength_20 : decode cX2_chainLength 20 = .ok (.iinc 2 1, 3) := by decide +kernel
theorem dX2_chainLength_23 : decode cX2_chainLength 23 = .ok (.aload_n 0, 1) := by decide +kernel
theorem dX2_chainLength_24 : decode cX2_chainLength 24 = .ok (.getfield 13, 3) := by decide +kernel
theorem dX2_chainLength_27 : decode cX2_chainLength 27 = .ok (.iload_n 3, 1) := by decide +kernel
theorem dX2_chainLength_28 : decode cX2_chainLength 28 = .ok (.aaload, 1) := by decide +kernel
theorem dX2_chainLength_29 : decode cX2_chainLength 29 = .ok (.getfield 87, 3) := by decide +kernel
theorem dX2_chainLength_32 : decode cX2_chainLength 32 = .ok (.istore_n 3, 1) := by decide +kernel
theorem dX2_chainLength_33 : decode cX2_chainLength 33 = .ok (.goto (-29), 3) := by decide +kernel
theorem dX2_chainLength_36 : decode cX2_chainLength 36 = .ok (.iload_n 2, 1) := by decide +kernel
theorem dX2_chainLength_37 : decode cX2_chainLength 37 = .ok (.ireturn, 1) := by decide +kernel
theorem dX2_pour_0 : decode cX2_pour 0 = .ok (.iload_n 2, 1) := by decide +kernel
theorem dX2_pour_1 : decode cX2_pour 1 = .ok (.istore_n 3, 1) := by decide +kernel
theorem dX2_pour_2 : decode cX2_pour 2 = .ok (.iload_n 1, 1) := by decide +kernel
theorem dX2_pour_3 : decode cX2_pour 3 = .ok (.istore 4, 2) := by decide +kernel
theorem dX2_pour_5 : decode cX2_pour 5 = .ok (.iconst 0, 1) := by decide +kernel
theorem dX2_pour_6 : decode cX2_pour 6 = .ok (.istore 5, 2) := by decide +kernel
theorem dX2_pour_8 : decode cX2_pour 8 = .ok (.iload 5, 2) := by decide +kernel
theorem dX2_pour_10 : decode cX2_pour 10 = .ok (.aload_n 0, 1) := by decide +kernel
theorem dX2_pour_11 : decode cX2_pour 11 = .ok (.getfield 29, 3) := by decide +kernel
theorem dX2_pour_14 : decode cX2_pour 14 = .ok (.if_icmp .ge 42, 3) := by decide +kernel
theorem dX2_pour_17 : decode cX2_pour 17 = .ok (.aload_n 0, 1) := by decide +kernel
theorem dX2_pour_18 : decode cX2_pour 18 = .ok (.iload 4, 2) := by decide +kernel
theorem dX2_pour_20 : decode cX2_pour 20 = .ok (.invokevirtual 83, 3) := by decide +kernel
theorem dX2_pour_23 : decode cX2_pour 23 = .ok (.ifCond .eq 33, 3) := by decide +kernel
theorem dX2_pour_26 : decode cX2_pour 26 = .ok (.aload_n 0, 1) := by decide +kernel
theorem dX2_pour_27 : decode cX2_pour 27 = .ok (.getfield 13, 3) := by decide +kernel
theorem dX2_pour_30 : decode cX2_pour 30 = .ok (.iload 4, 2) := by decide +kernel
theorem dX2_pour_32 : decode cX2_pour 32 = .ok (.aaload, 1) := by decide +kernel
theorem dX2_pour_33 : decode cX2_pour 33 = .ok (.iload_n 3, 1) := by decide +kernel
theorem dX2_pour_34 : decode cX2_pour 34 = .ok (.invokevirtual 90, 3) := by decide +kernel
theorem dX2_pour_37 : decode cX2_pour 37 = .ok (.istore_n 3, 1) := by decide +kernel
theorem dX2_pour_38 : decode cX2_pour 38 = .ok (.aload_n 0, 1) := by decide +kernel
theorem dX2_pour_39 : decode cX2_pour 39 = .ok (.getfield 13, 3) := by decide +kernel
theorem dX2_pour_42 : decode cX2_pour 42 = .ok (.iload 4, 2) := by decide +kernel
theorem dX2_pour_44 : decode cX2_pour 44 = .ok (.aaload, 1) := by decide +kernel
theorem dX2_pour_45 : decode cX2_pour 45 = .ok (.getfield 87, 3) := by decide +kernel
theorem dX2_pour_48 : decode cX2_pour 48 = .ok (.istore 4, 2) := by decide +kernel
theorem dX2_pour_50 : decode cX2_pour 50 = .ok (.iinc 5 1, 3) := by decide +kernel
theorem dX2_pour_53 : decode cX2_pour 53 = .ok (.goto (-45), 3) := by decide +kernel
theorem dX2_pour_56 : decode cX2_pour 56 = .ok (.aload_n 0, 1) := by decide +kernel
theorem dX2_pour_57 : decode cX2_pour 57 = .ok (.dup, 1) := by decide +kernel
theorem dX2_pour_58 : decode cX2_pour 58 = .ok (.getfield 42, 3) := by decide +kernel
theorem dX2_pour_61 : decode cX2_pour 61 = .ok (.iload_n 3, 1) := by decide +kernel
theorem dX2_pour_62 : decode cX2_pour 62 = .ok (.iadd, 1) := by decide +kernel
theorem dX2_pour_63 : decode cX2_pour 63 = .ok (.putfield 42, 3) := by decide +kernel
theorem dX2_pour_66 : decode cX2_pour 66 = .ok (.iload_n 3, 1) := by decide +kernel
theorem dX2_pour_67 : decode cX2_pour 67 = .ok (.ireturn, 1) := by decide +kernel
theorem dX2_live_0 : decode cX2_live 0 = .ok (.aload_n 0, 1) := by decide +kernel
theorem dX2_live_1 : decode cX2_live 1 = .ok (.invokevirtual 94, 3) := by decide +kernel
theorem dX2_live_4 : decode cX2_live 4 = .ok (.istore_n 2, 1) := by decide +kernel
theorem dX2_live_5 : decode cX2_live 5 = .ok (.iconst 0, 1) := by decide +kernel
theorem dX2_live_6 : decode cX2_live 6 = .ok (.istore_n 3, 1) := by decide +kernel
theorem dX2_live_7 : decode cX2_live 7 = .ok (.iload_n 3, 1) := by decide +kernel
theorem dX2_live_8 : decode cX2_live 8 = .ok (.iload_n 1, 1) := by decide +kernel
theorem dX2_live_9 : decode cX2_live 9 = .ok (.if_icmp .ge 13, 3) := by decide +kernel
theorem dX2_live_12 : decode cX2_live 12 = .ok (.aload_n 0, 1) := by decide +kernel
theorem dX2_live_13 : decode cX2_live 13 = .ok (.invokevirtual 98, 3) := by decide +kernel
theorem dX2_live_16 : decode cX2_live 16 = .ok (.iinc 3 1, 3) := by decide +kernel
theorem dX2_live_19 : decode cX2_live 19 = .ok (.goto (-12), 3) := by decide +kernel
theorem dX2_live_22 : decode cX2_live 22 = .ok (.aload_n 0, 1) := by decide +kernel
theorem dX2_live_23 : decode cX2_live 23 = .ok (.invokevirtual 94, 3) := by decide +kernel
theorem dX2_live_26 : decode cX2_live 26 = .ok (.iload_n 2, 1) := by decide +kernel
theorem dX2_live_27 : decode cX2_live 27 = .ok (.isub, 1) := by decide +kernel
theorem dX2_live_28 : decode cX2_live 28 = .ok (.ireturn, 1) := by decide +kernel
theorem dX2_daysToThirst_0 : decode cX2_daysToThirst 0 = .ok (.aload_n 0, 1) := by decide +kernel
theorem dX2_daysToThirst_1 : decode cX2_daysToThirst 1 = .ok (.getfield 13, 3) := by decide +kernel
theorem dX2_daysToThirst_4 : decode cX2_daysToThirst 4 = .ok (.iload_n 1, 1) := by decide +kernel
theorem dX2_daysToThirst_5 : decode cX2_daysToThirst 5 = .ok (.aaload, 1) := by decide +kernel
theorem dX2_daysToThirst_6 : decode cX2_daysToThirst 6 = .ok (.astore_n 3, 1) := by decide +kernel
theorem dX2_daysToThirst_7 : decode cX2_daysToThirst 7 = .ok (.aload_n 3, 1) := by decide +kernel
theorem dX2_daysToThirst_8 : decode cX2_daysToThirst 8 = .ok (.getfield 101, 3) := by decide +kernel
theorem dX2_daysToThirst_11 : decode cX2_daysToThirst 11 = .ok (.istore 4, 2) := by decide +kernel
theorem dX2_daysToThirst_13 : decode cX2_daysToThirst 13 = .ok (.iconst 1, 1) := by decide +kernel
theorem dX2_daysToThirst_14 : decode cX2_daysToThirst 14 = .ok (.istore 5, 2) := by decide +kernel
theorem dX2_daysToThirst_16 : decode cX2_daysToThirst 16 = .ok (.iload 5, 2) := by decide +kernel
theorem dX2_daysToThirst_18 : decode cX2_daysToThirst 18 = .ok (.iload_n 2, 1) := by decide +kernel
theorem dX2_daysToThirst_19 : decode cX2_daysToThirst 19 = .ok (.if_icmp .gt 25, 3) := by decide +kernel
theorem dX2_daysToThirst_22 : decode cX2_daysToThirst 22 = .ok (.aload_n 0, 1) := by decide +kernel
theorem dX2_daysToThirst_23 : decode cX2_daysToThirst 23 = .ok (.invokevirtual 98, 3) := by decide +kernel
theorem dX2_daysToThirst_26 : decode cX2_daysToThirst 26 = .ok (.aload_n 3, 1) := by decide +kernel
theorem dX2_daysToThirst_27 : decode cX2_daysToThirst 27 = .ok (.getfield 101, 3) := by decide +kernel
theorem dX2_daysToThirst_30 : decode cX2_daysToThirst 30 = .ok (.iload 4, 2) := by decide +kernel
theorem dX2_daysToThirst_32 : decode cX2_daysToThirst 32 = .ok (.if_icmp .eq 6, 3) := by decide +kernel
theorem dX2_daysToThirst_35 : decode cX2_daysToThirst 35 = .ok (.iload 5, 2) := by decide +kernel
theorem dX2_daysToThirst_37 : decode cX2_daysToThirst 37 = .ok (.ireturn, 1) := by decide +kernel
theorem dX2_daysToThirst_38 : decode cX2_daysToThirst 38 = .ok (.iinc 5 1, 3) := by decide +kernel
theorem dX2_daysToThirst_41 : decode cX2_daysToThirst 41 = .ok (.goto (-25), 3) := by decide +kernel
theorem dX2_daysToThirst_44 : decode cX2_daysToThirst 44 = .ok (.iconst (-1), 1) := by decide +kernel
theorem dX2_daysToThirst_45 : decode cX2_daysToThirst 45 = .ok (.ireturn, 1) := by decide +kernel
theorem dX2_liveDay_0 : decode cX2_liveDay 0 = .ok (.aload_n 0, 1) := by decide +kernel
theorem dX2_liveDay_1 : decode cX2_liveDay 1 = .ok (.aload_n 0, 1) := by decide +kernel
theorem dX2_liveDay_2 : decode cX2_liveDay 2 = .ok (.getfield 23, 3) := by decide +kernel
theorem dX2_liveDay_5 : decode cX2_liveDay 5 = .ok (.aload_n 0, 1) := by decide +kernel
theorem dX2_liveDay_6 : decode cX2_liveDay 6 = .ok (.getfield 36, 3) := by decide +kernel
theorem dX2_liveDay_9 : decode cX2_liveDay 9 = .ok (.invokevirtual 104, 3) := by decide +kernel
theorem dX2_liveDay_12 : decode cX2_liveDay 12 = .ok (.invokevirtual 109, 3) := by decide +kernel
theorem dX2_liveDay_15 : decode cX2_liveDay 15 = .ok (.iconst 0, 1) := by decide +kernel
theorem dX2_liveDay_16 : decode cX2_liveDay 16 = .ok (.istore_n 1, 1) := by decide +kernel
theorem dX2_liveDay_17 : decode cX2_liveDay 17 = .ok (.iload_n 1, 1) := by decide +kernel
theorem dX2_liveDay_18 : decode cX2_liveDay 18 = .ok (.aload_n 0, 1) := by decide +kernel
theorem dX2_liveDay_19 : decode cX2_liveDay 19 = .ok (.getfield 29, 3) := by decide +kernel
theorem dX2_liveDay_22 : decode cX2_liveDay 22 = .ok (.if_icmp .ge 27, 3) := by decide +kernel
theorem dX2_liveDay_25 : decode cX2_liveDay 25 = .ok (.aload_n 0, 1) := by decide +kernel
theorem dX2_liveDay_26 : decode cX2_liveDay 26 = .ok (.dup, 1) := by decide +kernel
theorem dX2_liveDay_27 : decode cX2_liveDay 27 = .ok (.getfield 45, 3) := by decide +kernel
theorem dX2_liveDay_30 : decode cX2_liveDay 30 = .ok (.aload_n 0, 1) := by decide +kernel
theorem dX2_liveDay_31 : decode cX2_liveDay 31 = .ok (.getfield 13, 3) := by decide +kernel
theorem dX2_liveDay_34 : decode cX2_liveDay 34 = .ok (.iload_n 1, 1) := by decide +kernel
theorem dX2_liveDay_35 : decode cX2_liveDay 35 = .ok (.aaload, 1) := by decide +kernel
theorem dX2_liveDay_36 : decode cX2_liveDay 36 = .ok (.invokevirtual 113, 3) := by decide +kernel
theorem dX2_liveDay_39 : decode cX2_liveDay 39 = .ok (.iadd, 1) := by decide +kernel
theorem dX2_liveDay_40 : decode cX2_liveDay 40 = .ok (.putfield 45, 3) := by decide +kernel
theorem dX2_liveDay_43 : decode cX2_liveDay 43 = .ok (.iinc 1 1, 3) := by decide +kernel
theorem dX2_liveDay_46 : decode cX2_liveDay 46 = .ok (.goto (-29), 3) := by decide +kernel
theorem dX2_liveDay_49 : decode cX2_liveDay 49 = .ok (.iconst 0, 1) := by decide +kernel
theorem dX2_liveDay_50 : decode cX2_liveDay 50 = .ok (.istore_n 1, 1) := by decide +kernel
theorem dX2_liveDay_51 : decode cX2_liveDay 51 = .ok (.iload_n 1, 1) := by decide +kernel
theorem dX2_liveDay_52 : decode cX2_liveDay 52 = .ok (.aload_n 0, 1) := by decide +kernel
theorem dX2_liveDay_53 : decode cX2_liveDay 53 = .ok (.getfield 29, 3) := by decide +kernel
theorem dX2_liveDay_56 : decode cX2_liveDay 56 = .ok (.if_icmp .ge 18, 3) := by decide +kernel
theorem dX2_liveDay_59 : decode cX2_liveDay 59 = .ok (.aload_n 0, 1) := by decide +kernel
theorem dX2_liveDay_60 : decode cX2_liveDay 60 = .ok (.getfield 13, 3) := by decide +kernel
theorem dX2_liveDay_63 : decode cX2_liveDay 63 = .ok (.iload_n 1, 1) := by decide +kernel
theorem dX2_liveDay_64 : decode cX2_liveDay 64 = .ok (.aaload, 1) := by decide +kernel
theorem dX2_liveDay_65 : decode cX2_liveDay 65 = .ok (.invokevirtual 116, 3) := by decide +kernel
theorem dX2_liveDay_68 : decode cX2_liveDay 68 = .ok (.iinc 1 1, 3) := by decide +kernel
theorem dX2_liveDay_71 : decode cX2_liveDay 71 = .ok (.goto (-20), 3) := by decide +kernel
theorem dX2_liveDay_74 : decode cX2_liveDay 74 = .ok (.aload_n 0, 1) := by decide +kernel
theorem dX2_liveDay_75 : decode cX2_liveDay 75 = .ok (.invokevirtual 119, 3) := by decide +kernel
theorem dX2_liveDay_78 : decode cX2_liveDay 78 = .ok (.aload_n 0, 1) := by decide +kernel
theorem dX2_liveDay_79 : decode cX2_liveDay 79 = .ok (.getfield 23, 3) := by decide +kernel
theorem dX2_liveDay_82 : decode cX2_liveDay 82 = .ok (.aload_n 0, 1) := by decide +kernel
theorem dX2_liveDay_83 : decode cX2_liveDay 83 = .ok (.getfield 36, 3) := by decide +kernel
theorem dX2_liveDay_86 : decode cX2_liveDay 86 = .ok (.invokevirtual 122, 3) := by decide +kernel
theorem dX2_liveDay_89 : decode cX2_liveDay 89 = .ok (.istore_n 1, 1) := by decide +kernel
theorem dX2_liveDay_90 : decode cX2_liveDay 90 = .ok (.iconst 0, 1) := by decide +kernel
theorem dX2_liveDay_91 : decode cX2_liveDay 91 = .ok (.istore_n 2, 1) := by decide +kernel
theorem dX2_liveDay_92 : decode cX2_liveDay 92 = .ok (.iload_n 2, 1) := by decide +kernel
theorem dX2_liveDay_93 : decode cX2_liveDay 93 = .ok (.aload_n 0, 1) := by decide +kernel
theorem dX2_liveDay_94 : decode cX2_liveDay 94 = .ok (.getfield 29, 3) := by decide +kernel
theorem dX2_liveDay_97 : decode cX2_liveDay 97 = .ok (.if_icmp .ge 19, 3) := by decide +kernel
theorem dX2_liveDay_100 : decode cX2_liveDay 100 = .ok (.aload_n 0, 1) := by decide +kernel
theorem dX2_liveDay_101 : decode cX2_liveDay 101 = .ok (.getfield 13, 3) := by decide +kernel
theorem dX2_liveDay_104 : decode cX2_liveDay 104 = .ok (.iload_n 2, 1) := by decide +kernel
theorem dX2_liveDay_105 : decode cX2_liveDay 105 = .ok (.aaload, 1) := by decide +kernel
theorem dX2_liveDay_106 : decode cX2_liveDay 106 = .ok (.iload_n 1, 1) := by decide +kernel
theorem dX2_liveDay_107 : decode cX2_liveDay 107 = .ok (.invokevirtual 125, 3) := by decide +kernel
theorem dX2_liveDay_110 : decode cX2_liveDay 110 = .ok (.iinc 2 1, 3) := by decide +kernel
theorem dX2_liveDay_113 : decode cX2_liveDay 113 = .ok (.goto (-21), 3) := by decide +kernel
theorem dX2_liveDay_116 : decode cX2_liveDay 116 = .ok (.aload_n 0, 1) := by decide +kernel
theorem dX2_liveDay_117 : decode cX2_liveDay 117 = .ok (.dup, 1) := by decide +kernel
theorem dX2_liveDay_118 : decode cX2_liveDay 118 = .ok (.getfield 36, 3) := by decide +kernel
theorem dX2_liveDay_121 : decode cX2_liveDay 121 = .ok (.iconst 1, 1) := by decide +kernel
theorem dX2_liveDay_122 : decode cX2_liveDay 122 = .ok (.iadd, 1) := by decide +kernel
theorem dX2_liveDay_123 : decode cX2_liveDay 123 = .ok (.putfield 36, 3) := by decide +kernel
theorem dX2_liveDay_126 : decode cX2_liveDay 126 = .ok (.return_, 1) := by decide +kernel
theorem dX2_rainDown_0 : decode cX2_rainDown 0 = .ok (.iconst 0, 1) := by decide +kernel
theorem dX2_rainDown_1 : decode cX2_rainDown 1 = .ok (.istore_n 2, 1) := by decide +kernel
theorem dX2_rainDown_2 : decode cX2_rainDown 2 = .ok (.iload_n 2, 1) := by decide +kernel
theorem dX2_rainDown_3 : decode cX2_rainDown 3 = .ok (.aload_n 0, 1) := by decide +kernel
theorem dX2_rainDown_4 : decode cX2_rainDown 4 = .ok (.getfield 29, 3) := by decide +kernel
theorem dX2_rainDown_7 : decode cX2_rainDown 7 = .ok (.if_icmp .ge 37, 3) := by decide +kernel
theorem dX2_rainDown_10 : decode cX2_rainDown 10 = .ok (.aload_n 0, 1) := by decide +kernel
theorem dX2_rainDown_11 : decode cX2_rainDown 11 = .ok (.getfield 13, 3) := by decide +kernel
theorem dX2_rainDown_14 : decode cX2_rainDown 14 = .ok (.iload_n 2, 1) := by decide +kernel
theorem dX2_rainDown_15 : decode cX2_rainDown 15 = .ok (.aaload, 1) := by decide +kernel
theorem dX2_rainDown_16 : decode cX2_rainDown 16 = .ok (.iload_n 1, 1) := by decide +kernel
theorem dX2_rainDown_17 : decode cX2_rainDown 17 = .ok (.invokevirtual 128, 3) := by decide +kernel
theorem dX2_rainDown_20 : decode cX2_rainDown 20 = .ok (.istore_n 3, 1) := by decide +kernel
theorem dX2_rainDown_21 : decode cX2_rainDown 21 = .ok (.aload_n 0, 1) := by decide +kernel
theorem dX2_rainDown_22 : decode cX2_rainDown 22 = .ok (.dup, 1) := by decide +kernel
theorem dX2_rainDown_23 : decode cX2_rainDown 23 = .ok (.getfield 39, 3) := by decide +kernel
theorem dX2_rainDown_26 : decode cX2_rainDown 26 = .ok (.iload_n 3, 1) := by decide +kernel
theorem dX2_rainDown_27 : decode cX2_rainDown 27 = .ok (.iadd, 1) := by decide +kernel
theorem dX2_rainDown_28 : decode cX2_rainDown 28 = .ok (.putfield 39, 3) := by decide +kernel
theorem dX2_rainDown_31 : decode cX2_rainDown 31 = .ok (.aload_n 0, 1) := by decide +kernel
theorem dX2_rainDown_32 : decode cX2_rainDown 32 = .ok (.iload_n 2, 1) := by decide +kernel
theorem dX2_rainDown_33 : decode cX2_rainDown 33 = .ok (.iload_n 3, 1) := by decide +kernel
theorem dX2_rainDown_34 : decode cX2_rainDown 34 = .ok (.invokevirtual 131, 3) := by decide +kernel
theorem dX2_rainDown_37 : decode cX2_rainDown 37 = .ok (.pop, 1) := by decide +kernel
theorem dX2_rainDown_38 : decode cX2_rainDown 38 = .ok (.iinc 2 1, 3) := by decide +kernel
theorem dX2_rainDown_41 : decode cX2_rainDown 41 = .ok (.goto (-39), 3) := by decide +kernel
theorem dX2_rainDown_44 : decode cX2_rainDown 44 = .ok (.return_, 1) := by decide +kernel
theorem dX2_openPipesFlow_0 : decode cX2_openPipesFlow 0 = .ok (.iconst 0, 1) := by decide +kernel
theorem dX2_openPipesFlow_1 : decode cX2_openPipesFlow 1 = .ok (.istore_n 1, 1) := by decide +kernel
theorem dX2_openPipesFlow_2 : decode cX2_openPipesFlow 2 = .ok (.iload_n 1, 1) := by decide +kernel
theorem dX2_openPipesFlow_3 : decode cX2_openPipesFlow 3 = .ok (.aload_n 0, 1) := by decide +kernel
theorem dX2_openPipesFlow_4 : decode cX2_openPipesFlow 4 = .ok (.getfield 33, 3) := by decide +kernel
theorem dX2_openPipesFlow_7 : decode cX2_openPipesFlow 7 = .ok (.if_icmp .ge 45, 3) := by decide +kernel
theorem dX2_openPipesFlow_10 : decode cX2_openPipesFlow 10 = .ok (.aload_n 0, 1) := by decide +kernel
theorem dX2_openPipesFlow_11 : decode cX2_openPipesFlow 11 = .ok (.getfield 19, 3) := by decide +kernel
theorem dX2_openPipesFlow_14 : decode cX2_openPipesFlow 14 = .ok (.iload_n 1, 1) := by decide +kernel
theorem dX2_openPipesFlow_15 : decode cX2_openPipesFlow 15 = .ok (.aaload, 1) := by decide +kernel
theorem dX2_openPipesFlow_16 : decode cX2_openPipesFlow 16 = .ok (.astore_n 2, 1) := by decide +kernel
theorem dX2_openPipesFlow_17 : decode cX2_openPipesFlow 17 = .ok (.aload_n 2, 1) := by decide +kernel
theorem dX2_openPipesFlow_18 : decode cX2_openPipesFlow 18 = .ok (.getfield 79, 3) := by decide +kernel
theorem dX2_openPipesFlow_21 : decode cX2_openPipesFlow 21 = .ok (.ifCond .eq 25, 3) := by decide +kernel
theorem dX2_openPipesFlow_24 : decode cX2_openPipesFlow 24 = .ok (.aload_n 2, 1) := by decide +kernel
theorem dX2_openPipesFlow_25 : decode cX2_openPipesFlow 25 = .ok (.aload_n 0, 1) := by decide +kernel
theorem dX2_openPipesFlow_26 : decode cX2_openPipesFlow 26 = .ok (.getfield 13, 3) := by decide +kernel
theorem dX2_openPipesFlow_29 : decode cX2_openPipesFlow 29 = .ok (.aload_n 2, 1) := by decide +kernel
theorem dX2_openPipesFlow_30 : decode cX2_openPipesFlow 30 = .ok (.getfield 70, 3) := by decide +kernel
theorem dX2_openPipesFlow_33 : decode cX2_openPipesFlow 33 = .ok (.aaload, 1) := by decide +kernel
theorem dX2_openPipesFlow_34 : decode cX2_openPipesFlow 34 = .ok (.aload_n 0, 1) := by decide +kernel
theorem dX2_openPipesFlow_35 : decode cX2_openPipesFlow 35 = .ok (.getfield 13, 3) := by decide +kernel
theorem dX2_openPipesFlow_38 : decode cX2_openPipesFlow 38 = .ok (.aload_n 2, 1) := by decide +kernel
theorem dX2_openPipesFlow_39 : decode cX2_openPipesFlow 39 = .ok (.getfield 73, 3) := by decide +kernel
theorem dX2_openPipesFlow_42 : decode cX2_openPipesFlow 42 = .ok (.aaload, 1) := by decide +kernel
theorem dX2_openPipesFlow_43 : decode cX2_openPipesFlow 43 = .ok (.invokevirtual 135, 3) := by decide +kernel
theorem dX2_openPipesFlow_46 : decode cX2_openPipesFlow 46 = .ok (.iinc 1 1, 3) := by decide +kernel
theorem dX2_openPipesFlow_49 : decode cX2_openPipesFlow 49 = .ok (.goto (-47), 3) := by decide +kernel
theorem dX2_openPipesFlow_52 : decode cX2_openPipesFlow 52 = .ok (.return_, 1) := by decide +kernel
theorem dX2_debt_0 : decode cX2_debt 0 = .ok (.iconst 0, 1) := by decide +kernel
theorem dX2_debt_1 : decode cX2_debt 1 = .ok (.istore_n 3, 1) := by decide +kernel
theorem dX2_debt_2 : decode cX2_debt 2 = .ok (.iconst 0, 1) := by decide +kernel
theorem dX2_debt_3 : decode cX2_debt 3 = .ok (.istore 4, 2) := by decide +kernel
theorem dX2_debt_5 : decode cX2_debt 5 = .ok (.iload 4, 2) := by decide +kernel
theorem dX2_debt_7 : decode cX2_debt 7 = .ok (.aload_n 0, 1) := by decide +kernel
theorem dX2_debt_8 : decode cX2_debt 8 = .ok (.getfield 33, 3) := by decide +kernel
theorem dX2_debt_11 : decode cX2_debt 11 = .ok (.if_icmp .ge 24, 3) := by decide +kernel
theorem dX2_debt_14 : decode cX2_debt 14 = .ok (.iload_n 3, 1) := by decide +kernel
theorem dX2_debt_15 : decode cX2_debt 15 = .ok (.aload_n 0, 1) := by decide +kernel
theorem dX2_debt_16 : decode cX2_debt 16 = .ok (.getfield 19, 3) := by decide +kernel
theorem dX2_debt_19 : decode cX2_debt 19 = .ok (.iload 4, 2) := by decide +kernel
theorem dX2_debt_21 : decode cX2_debt 21 = .ok (.aaload, 1) := by decide +kernel
theorem dX2_debt_22 : decode cX2_debt 22 = .ok (.iload_n 1, 1) := by decide +kernel
theorem dX2_debt_23 : decode cX2_debt 23 = .ok (.iload_n 2, 1) := by decide +kernel
theorem dX2_debt_24 : decode cX2_debt 24 = .ok (.invokevirtual 139, 3) := by decide +kernel
theorem dX2_debt_27 : decode cX2_debt 27 = .ok (.iadd, 1) := by decide +kernel
theorem dX2_debt_28 : decode cX2_debt 28 = .ok (.istore_n 3, 1) := by decide +kernel
theorem dX2_debt_29 : decode cX2_debt 29 = .ok (.iinc 4 1, 3) := by decide +kernel
theorem dX2_debt_32 : decode cX2_debt 32 = .ok (.goto (-27), 3) := by decide +kernel
theorem dX2_debt_35 : decode cX2_debt 35 = .ok (.iload_n 3, 1) := by decide +kernel
theorem dX2_debt_36 : decode cX2_debt 36 = .ok (.ireturn, 1) := by decide +kernel
theorem dX2_total_0 : decode cX2_total 0 = .ok (.iload_n 1, 1) := by decide +kernel
theorem dX2_total_1 : decode cX2_total 1 = .ok (.tableswitch 105 0 9 #[55, 60, 65, 70, 75, 80, 85, 90, 95, 100], 55) := by decide +kernel
theorem dX2_total_56 : decode cX2_total 56 = .ok (.aload_n 0, 1) := by decide +kernel
theorem dX2_total_57 : decode cX2_total 57 = .ok (.getfield 36, 3) := by decide +kernel
theorem dX2_total_60 : decode cX2_total 60 = .ok (.ireturn, 1) := by decide +kernel
theorem dX2_total_61 : decode cX2_total 61 = .ok (.aload_n 0, 1) := by decide +kernel
theorem dX2_total_62 : decode cX2_total 62 = .ok (.getfield 29, 3) := by decide +kernel
theorem dX2_total_65 : decode cX2_total 65 = .ok (.ireturn, 1) := by decide +kernel
theorem dX2_total_66 : decode cX2_total 66 = .ok (.aload_n 0, 1) := by decide +kernel
theorem dX2_total_67 : decode cX2_total 67 = .ok (.getfield 33, 3) := by decide +kernel
theorem dX2_total_70 : decode cX2_total 70 = .ok (.ireturn, 1) := by decide +kernel
theorem dX2_total_71 : decode cX2_total 71 = .ok (.aload_n 0, 1) := by decide +kernel
theorem dX2_total_72 : decode cX2_total 72 = .ok (.invokevirtual 142, 3) := by decide +kernel
theorem dX2_total_75 : decode cX2_total 75 = .ok (.ireturn, 1) := by decide +kernel
theorem dX2_total_76 : decode cX2_total 76 = .ok (.aload_n 0, 1) := by decide +kernel
theorem dX2_total_77 : decode cX2_total 77 = .ok (.invokevirtual 94, 3) := by decide +kernel
theorem dX2_total_80 : decode cX2_total 80 = .ok (.ireturn, 1) := by decide +kernel
theorem dX2_total_81 : decode cX2_total 81 = .ok (.aload_n 0, 1) := by decide +kernel
theorem dX2_total_82 : decode cX2_total 82 = .ok (.getfield 39, 3) := by decide +kernel
theorem dX2_total_85 : decode cX2_total 85 = .ok (.ireturn, 1) := by decide +kernel
theorem dX2_total_86 : decode cX2_total 86 = .ok (.aload_n 0, 1) := by decide +kernel
theorem dX2_total_87 : decode cX2_total 87 = .ok (.getfield 42, 3) := by decide +kernel
theorem dX2_total_90 : decode cX2_total 90 = .ok (.ireturn, 1) := by decide +kernel
theorem dX2_total_91 : decode cX2_total 91 = .ok (.aload_n 0, 1) := by decide +kernel
theorem dX2_total_92 : decode cX2_total 92 = .ok (.getfield 45, 3) := by decide +kernel
theorem dX2_total_95 : decode cX2_total 95 = .ok (.ireturn, 1) := by decide +kernel
theorem dX2_total_96 : decode cX2_total 96 = .ok (.aload_n 0, 1) := by decide +kernel
theorem dX2_total_97 : decode cX2_total 97 = .ok (.invokevirtual 145, 3) := by decide +kernel
theorem dX2_total_100 : decode cX2_total 100 = .ok (.ireturn, 1) := by decide +kernel
theorem dX2_total_101 : decode cX2_total 101 = .ok (.aload_n 0, 1) := by decide +kernel
theorem dX2_total_102 : decode cX2_total 102 = .ok (.getfield 48, 3) := by decide +kernel
theorem dX2_total_105 : decode cX2_total 105 = .ok (.ireturn, 1) := by decide +kernel
theorem dX2_total_106 : decode cX2_total 106 = .ok (.aload_n 0, 1) := by decide +kernel
theorem dX2_total_107 : decode cX2_total 107 = .ok (.invokevirtual 148, 3) := by decide +kernel
theorem dX2_total_110 : decode cX2_total 110 = .ok (.ireturn, 1) := by decide +kernel
theorem dX2_allWater_0 : decode cX2_allWater 0 = .ok (.iconst 0, 1) := by decide +kernel
theorem dX2_allWater_1 : decode cX2_allWater 1 = .ok (.istore_n 1, 1) := by decide +kernel
theorem dX2_allWater_2 : decode cX2_allWater 2 = .ok (.iconst 0, 1) := by decide +kernel
theorem dX2_allWater_3 : decode cX2_allWater 3 = .ok (.istore_n 2, 1) := by decide +kernel
theorem dX2_allWater_4 : decode cX2_allWater 4 = .ok (.iload_n 2, 1) := by decide +kernel
theorem dX2_allWater_5 : decode cX2_allWater 5 = .ok (.aload_n 0, 1) := by decide +kernel
theorem dX2_allWater_6 : decode cX2_allWater 6 = .ok (.getfield 29, 3) := by decide +kernel
theorem dX2_allWater_9 : decode cX2_allWater 9 = .ok (.if_icmp .ge 21, 3) := by decide +kernel
theorem dX2_allWater_12 : decode cX2_allWater 12 = .ok (.iload_n 1, 1) := by decide +kernel
theorem dX2_allWater_13 : decode cX2_allWater 13 = .ok (.aload_n 0, 1) := by decide +kernel
theorem dX2_allWater_14 : decode cX2_allWater 14 = .ok (.getfield 13, 3) := by decide +kernel
theorem dX2_allWater_17 : decode cX2_allWater 17 = .ok (.iload_n 2, 1) := by decide +kernel
theorem dX2_allWater_18 : decode cX2_allWater 18 = .ok (.aaload, 1) := by decide +kernel
theorem dX2_allWater_19 : decode cX2_allWater 19 = .ok (.getfield 151, 3) := by decide +kernel
theorem dX2_allWater_22 : decode cX2_allWater 22 = .ok (.iadd, 1) := by decide +kernel
theorem dX2_allWater_23 : decode cX2_allWater 23 = .ok (.istore_n 1, 1) := by decide +kernel
theorem dX2_allWater_24 : decode cX2_allWater 24 = .ok (.iinc 2 1, 3) := by decide +kernel
theorem dX2_allWater_27 : decode cX2_allWater 27 = .ok (.goto (-23), 3) := by decide +kernel
theorem dX2_allWater_30 : decode cX2_allWater 30 = .ok (.iload_n 1, 1) := by decide +kernel
theorem dX2_allWater_31 : decode cX2_allWater 31 = .ok (.ireturn, 1) := by decide +kernel
theorem dX2_allHolds_0 : decode cX2_allHolds 0 = .ok (.iconst 0, 1) := by decide +kernel
theorem dX2_allHolds_1 : decode cX2_allHolds 1 = .ok (.istore_n 1, 1) := by decide +kernel
theorem dX2_allHolds_2 : decode cX2_allHolds 2 = .ok (.iconst 0, 1) := by decide +kernel
theorem dX2_allHolds_3 : decode cX2_allHolds 3 = .ok (.istore_n 2, 1) := by decide +kernel
theorem dX2_allHolds_4 : decode cX2_allHolds 4 = .ok (.iload_n 2, 1) := by decide +kernel
theorem dX2_allHolds_5 : decode cX2_allHolds 5 = .ok (.aload_n 0, 1) := by decide +kernel
theorem dX2_allHolds_6 : decode cX2_allHolds 6 = .ok (.getfield 29, 3) := by decide +kernel
theorem dX2_allHolds_9 : decode cX2_allHolds 9 = .ok (.if_icmp .ge 21, 3) := by decide +kernel
theorem dX2_allHolds_12 : decode cX2_allHolds 12 = .ok (.iload_n 1, 1) := by decide +kernel
theorem dX2_allHolds_13 : decode cX2_allHolds 13 = .ok (.aload_n 0, 1) := by decide +kernel
theorem dX2_allHolds_14 : decode cX2_allHolds 14 = .ok (.getfield 13, 3) := by decide +kernel
theorem dX2_allHolds_17 : decode cX2_allHolds 17 = .ok (.iload_n 2, 1) := by decide +kernel
theorem dX2_allHolds_18 : decode cX2_allHolds 18 = .ok (.aaload, 1) := by decide +kernel
theorem dX2_allHolds_19 : decode cX2_allHolds 19 = .ok (.getfield 61, 3) := by decide +kernel
theorem dX2_allHolds_22 : decode cX2_allHolds 22 = .ok (.iadd, 1) := by decide +kernel
theorem dX2_allHolds_23 : decode cX2_allHolds 23 = .ok (.istore_n 1, 1) := by decide +kernel
theorem dX2_allHolds_24 : decode cX2_allHolds 24 = .ok (.iinc 2 1, 3) := by decide +kernel
theorem dX2_allHolds_27 : decode cX2_allHolds 27 = .ok (.goto (-23), 3) := by decide +kernel
theorem dX2_allHolds_30 : decode cX2_allHolds 30 = .ok (.iload_n 1, 1) := by decide +kernel
theorem dX2_allHolds_31 : decode cX2_allHolds 31 = .ok (.ireturn, 1) := by decide +kernel
theorem dX2_allThirst_0 : decode cX2_allThirst 0 = .ok (.iconst 0, 1) := by decide +kernel
theorem dX2_allThirst_1 : decode cX2_allThirst 1 = .ok (.istore_n 1, 1) := by decide +kernel
theorem dX2_allThirst_2 : decode cX2_allThirst 2 = .ok (.iconst 0, 1) := by decide +kernel
theorem dX2_allThirst_3 : decode cX2_allThirst 3 = .ok (.istore_n 2, 1) := by decide +kernel
theorem dX2_allThirst_4 : decode cX2_allThirst 4 = .ok (.iload_n 2, 1) := by decide +kernel
theorem dX2_allThirst_5 : decode cX2_allThirst 5 = .ok (.aload_n 0, 1) := by decide +kernel
theorem dX2_allThirst_6 : decode cX2_allThirst 6 = .ok (.getfield 29, 3) := by decide +kernel
theorem dX2_allThirst_9 : decode cX2_allThirst 9 = .ok (.if_icmp .ge 21, 3) := by decide +kernel
theorem dX2_allThirst_12 : decode cX2_allThirst 12 = .ok (.iload_n 1, 1) := by decide +kernel
theorem dX2_allThirst_13 : decode cX2_allThirst 13 = .ok (.aload_n 0, 1) := by decide +kernel
theorem dX2_allThirst_14 : decode cX2_allThirst 14 = .ok (.getfield 13, 3) := by decide +kernel
theorem dX2_allThirst_17 : decode cX2_allThirst 17 = .ok (.iload_n 2, 1) := by decide +kernel
theorem dX2_allThirst_18 : decode cX2_allThirst 18 = .ok (.aaload, 1) := by decide +kernel
theorem dX2_allThirst_19 : decode cX2_allThirst 19 = .ok (.getfield 154, 3) := by decide +kernel
theorem dX2_allThirst_22 : decode cX2_allThirst 22 = .ok (.iadd, 1) := by decide +kernel
theorem dX2_allThirst_23 : decode cX2_allThirst 23 = .ok (.istore_n 1, 1) := by decide +kernel
theorem dX2_allThirst_24 : decode cX2_allThirst 24 = .ok (.iinc 2 1, 3) := by decide +kernel
theorem dX2_allThirst_27 : decode cX2_allThirst 27 = .ok (.goto (-23), 3) := by decide +kernel
theorem dX2_allThirst_30 : decode cX2_allThirst 30 = .ok (.iload_n 1, 1) := by decide +kernel
theorem dX2_allThirst_31 : decode cX2_allThirst 31 = .ok (.ireturn, 1) := by decide +kernel
theorem dX2_allWatered_0 : decode cX2_allWatered 0 = .ok (.iconst 0, 1) := by decide +kernel
theorem dX2_allWatered_1 : decode cX2_allWatered 1 = .ok (.istore_n 1, 1) := by decide +kernel
theorem dX2_allWatered_2 : decode cX2_allWatered 2 = .ok (.iconst 0, 1) := by decide +kernel
theorem dX2_allWatered_3 : decode cX2_allWatered 3 = .ok (.istore_n 2, 1) := by decide +kernel
theorem dX2_allWatered_4 : decode cX2_allWatered 4 = .ok (.iload_n 2, 1) := by decide +kernel
theorem dX2_allWatered_5 : decode cX2_allWatered 5 = .ok (.aload_n 0, 1) := by decide +kernel
theorem dX2_allWatered_6 : decode cX2_allWatered 6 = .ok (.getfield 29, 3) := by decide +kernel
theorem dX2_allWatered_9 : decode cX2_allWatered 9 = .ok (.if_icmp .ge 21, 3) := by decide +kernel
theorem dX2_allWatered_12 : decode cX2_allWatered 12 = .ok (.iload_n 1, 1) := by decide +kernel
theorem dX2_allWatered_13 : decode cX2_allWatered 13 = .ok (.aload_n 0, 1) := by decide +kernel
theorem dX2_allWatered_14 : decode cX2_allWatered 14 = .ok (.getfield 13, 3) := by decide +kernel
theorem dX2_allWatered_17 : decode cX2_allWatered 17 = .ok (.iload_n 2, 1) := by decide +kernel
theorem dX2_allWatered_18 : decode cX2_allWatered 18 = .ok (.aaload, 1) := by decide +kernel
theorem dX2_allWatered_19 : decode cX2_allWatered 19 = .ok (.getfield 157, 3) := by decide +kernel
theorem dX2_allWatered_22 : decode cX2_allWatered 22 = .ok (.iadd, 1) := by decide +kernel
theorem dX2_allWatered_23 : decode cX2_allWatered 23 = .ok (.istore_n 1, 1) := by decide +kernel
theorem dX2_allWatered_24 : decode cX2_allWatered 24 = .ok (.iinc 2 1, 3) := by decide +kernel
theorem dX2_allWatered_27 : decode cX2_allWatered 27 = .ok (.goto (-23), 3) := by decide +kernel
theorem dX2_allWatered_30 : decode cX2_allWatered 30 = .ok (.iload_n 1, 1) := by decide +kernel
theorem dX2_allWatered_31 : decode cX2_allWatered 31 = .ok (.ireturn, 1) := by decide +kernel
theorem dX2_openValves_0 : decode cX2_openValves 0 = .ok (.iconst 0, 1) := by decide +kernel
theorem dX2_openValves_1 : decode cX2_openValves 1 = .ok (.istore_n 1, 1) := by decide +kernel
theorem dX2_openValves_2 : decode cX2_openValves 2 = .ok (.iconst 0, 1) := by decide +kernel
theorem dX2_openValves_3 : decode cX2_openValves 3 = .ok (.istore_n 2, 1) := by decide +kernel
theorem dX2_openValves_4 : decode cX2_openValves 4 = .ok (.iload_n 2, 1) := by decide +kernel
theorem dX2_openValves_5 : decode cX2_openValves 5 = .ok (.aload_n 0, 1) := by decide +kernel
theorem dX2_openValves_6 : decode cX2_openValves 6 = .ok (.getfield 33, 3) := by decide +kernel
theorem dX2_openValves_9 : decode cX2_openValves 9 = .ok (.if_icmp .ge 24, 3) := by decide +kernel
theorem dX2_openValves_12 : decode cX2_openValves 12 = .ok (.aload_n 0, 1) := by decide +kernel
theorem dX2_openValves_13 : decode cX2_openValves 13 = .ok (.getfield 19, 3) := by decide +kernel
theorem dX2_openValves_16 : decode cX2_openValves 16 = .ok (.iload_n 2, 1) := by decide +kernel
theorem dX2_openValves_17 : decode cX2_openValves 17 = .ok (.aaload, 1) := by decide +kernel
theorem dX2_openValves_18 : decode cX2_openValves 18 = .ok (.getfield 79, 3) := by decide +kernel
theorem dX2_openValves_21 : decode cX2_openValves 21 = .ok (.ifCond .eq 6, 3) := by decide +kernel
theorem dX2_openValves_24 : decode cX2_openValves 24 = .ok (.iinc 1 1, 3) := by decide +kernel
theorem dX2_openValves_27 : decode cX2_openValves 27 = .ok (.iinc 2 1, 3) := by decide +kernel
theorem dX2_openValves_30 : decode cX2_openValves 30 = .ok (.goto (-26), 3) := by decide +kernel
theorem dX2_openValves_33 : decode cX2_openValves 33 = .ok (.iload_n 1, 1) := by decide +kernel
theorem dX2_openValves_34 : decode cX2_openValves 34 = .ok (.ireturn, 1) := by decide +kernel
theorem dX3_init_0 : decode cX3_init 0 = .ok (.aload_n 0, 1) := by decide +kernel
theorem dX3_init_1 : decode cX3_init 1 = .ok (.invokespecial 1, 3) := by decide +kernel
theorem dX3_init_4 : decode cX3_init 4 = .ok (.aload_n 0, 1) := by decide +kernel
theorem dX3_init_5 : decode cX3_init 5 = .ok (.bipush 28, 2) := by decide +kernel
theorem dX3_init_7 : decode cX3_init 7 = .ok (.newarray .int, 2) := by decide +kernel
theorem dX3_init_9 : decode cX3_init 9 = .ok (.putfield 9, 3) := by decide +kernel
theorem dX3_init_12 : decode cX3_init 12 = .ok (.aload_n 0, 1) := by decide +kernel
theorem dX3_init_13 : decode cX3_init 13 = .ok (.bipush 28, 2) := by decide +kernel
theorem dX3_init_15 : decode cX3_init 15 = .ok (.newarray .int, 2) := by decide +kernel
theorem dX3_init_17 : decode cX3_init 17 = .ok (.putfield 13, 3) := by decide +kernel
theorem dX3_init_20 : decode cX3_init 20 = .ok (.return_, 1) := by decide +kernel
theorem dX3_change_0 : decode cX3_change 0 = .ok (.aload_n 0, 1) := by decide +kernel
theorem dX3_change_1 : decode cX3_change 1 = .ok (.getfield 9, 3) := by decide +kernel
theorem dX3_change_4 : decode cX3_change 4 = .ok (.iload_n 1, 1) := by decide +kernel
theorem dX3_change_5 : decode cX3_change 5 = .ok (.iload_n 2, 1) := by decide +kernel
theorem dX3_change_6 : decode cX3_change 6 = .ok (.iastore, 1) := by decide +kernel
theorem dX3_change_7 : decode cX3_change 7 = .ok (.aload_n 0, 1) := by decide +kernel
theorem dX3_change_8 : decode cX3_change 8 = .ok (.getfield 13, 3) := by decide +kernel
theorem dX3_change_11 : decode cX3_change 11 = .ok (.iload_n 1, 1) := by decide +kernel
theorem dX3_change_12 : decode cX3_change 12 = .ok (.iload_n 3, 1) := by decide +kernel
theorem dX3_change_13 : decode cX3_change 13 = .ok (.iastore, 1) := by decide +kernel
theorem dX3_change_14 : decode cX3_change 14 = .ok (.return_, 1) := by decide +kernel
theorem dX3_code_0 : decode cX3_code 0 = .ok (.bipush 10, 2) := by decide +kernel
theorem dX3_code_2 : decode cX3_code 2 = .ok (.aload_n 0, 1) := by decide +kernel
theorem dX3_code_3 : decode cX3_code 3 = .ok (.getfield 9, 3) := by decide +kernel
theorem dX3_code_6 : decode cX3_code 6 = .ok (.iload_n 1, 1) := by decide +kernel
theorem dX3_code_7 : decode cX3_code 7 = .ok (.iaload, 1) := by decide +kernel
theorem dX3_code_8 : decode cX3_code 8 = .ok (.imul, 1) := by decide +kernel
theorem dX3_code_9 : decode cX3_code 9 = .ok (.aload_n 0, 1) := by decide +kernel
theorem dX3_code_10 : decode cX3_code 10 = .ok (.getfield 13, 3) := by decide +kernel
theorem dX3_code_13 : decode cX3_code 13 = .ok (.iload_n 1, 1) := by decide +kernel
theorem dX3_code_14 : decode cX3_code 14 = .ok (.iaload, 1) := by decide +kernel
theorem dX3_code_15 : decode cX3_code 15 = .ok (.iadd, 1) := by decide +kernel
theorem dX3_code_16 : decode cX3_code 16 = .ok (.ireturn, 1) := by decide +kernel
theorem dX3_rainOn_0 : decode cX3_rainOn 0 = .ok (.aload_n 0, 1) := by decide +kernel
theorem dX3_rainOn_1 : decode cX3_rainOn 1 = .ok (.getfield 9, 3) := by decide +kernel
theorem dX3_rainOn_4 : decode cX3_rainOn 4 = .ok (.iload_n 1, 1) := by decide +kernel
theorem dX3_rainOn_5 : decode cX3_rainOn 5 = .ok (.bipush 28, 2) := by decide +kernel
theorem dX3_rainOn_7 : decode cX3_rainOn 7 = .ok (.invokestatic 16, 3) := by decide +kernel
theorem dX3_rainOn_10 : decode cX3_rainOn 10 = .ok (.iaload, 1) := by decide +kernel
theorem dX3_rainOn_11 : decode cX3_rainOn 11 = .ok (.ireturn, 1) := by decide +kernel
theorem dX3_leavesOn_0 : decode cX3_leavesOn 0 = .ok (.aload_n 0, 1) := by decide +kernel
theorem dX3_leavesOn_1 : decode cX3_leavesOn 1 = .ok (.getfield 13, 3) := by decide +kernel
theorem dX3_leavesOn_4 : decode cX3_leavesOn 4 = .ok (.iload_n 1, 1) := by decide +kernel
theorem dX3_leavesOn_5 : decode cX3_leavesOn 5 = .ok (.bipush 28, 2) := by decide +kernel
theorem dX3_leavesOn_7 : decode cX3_leavesOn 7 = .ok (.invokestatic 16, 3) := by decide +kernel
theorem dX3_leavesOn_10 : decode cX3_leavesOn 10 = .ok (.iaload, 1) := by decide +kernel
theorem dX3_leavesOn_11 : decode cX3_leavesOn 11 = .ok (.ireturn, 1) := by decide +kernel
end
section
theorem dX4_init_0 : decode cX4_init 0 = .ok (.aload_n 0, 1) := by decide +kernel
theorem dX4_init_1 : decode cX4_init 1 = .ok (.invokespecial 1, 3) := by decide +kernel
theorem dX4_init_4 : decode cX4_init 4 = .ok (.aload_n 0, 1) := by decide +kernel
theorem dX4_init_5 : decode cX4_init 5 = .ok (.new 7, 3) := by decide +kernel
theorem dX4_init_8 : decode cX4_init 8 = .ok (.dup, 1) := by decide +kernel
theorem dX4_init_9 : decode cX4_init 9 = .ok (.invokespecial 9, 3) := by decide +kernel
theorem dX4_init_12 : decode cX4_init 12 = .ok (.putfield 10, 3) := by decide +kernel
theorem dX4_init_15 : decode cX4_init 15 = .ok (.aload_n 0, 1) := by decide +kernel
theorem dX4_init_16 : decode cX4_init 16 = .ok (.new 16, 3) := by decide +kernel
theorem dX4_init_19 : decode cX4_init 19 = .ok (.dup, 1) := by decide +kernel
theorem dX4_init_20 : decode cX4_init 20 = .ok (.aload_n 0, 1) := by decide +kernel
theorem dX4_init_21 : decode cX4_init 21 = .ok (.getfield 10, 3) := by decide +kernel
theorem dX4_init_24 : decode cX4_init 24 = .ok (.invokespecial 18, 3) := by decide +kernel
theorem dX4_init_27 : decode cX4_init 27 = .ok (.putfield 21, 3) := by decide +kernel
theorem dX4_init_30 : decode cX4_init 30 = .ok (.aload_n 0, 1) := by decide +kernel
theorem dX4_init_31 : decode cX4_init 31 = .ok (.new 16, 3) := by decide +kernel
theorem dX4_init_34 : decode cX4_init 34 = .ok (.dup, 1) := by decide +kernel
theorem dX4_init_35 : decode cX4_init 35 = .ok (.aload_n 0, 1) := by decide +kernel
theorem dX4_init_36 : decode cX4_init 36 = .ok (.getfield 10, 3) := by decide +kernel
theorem dX4_init_39 : decode cX4_init 39 = .ok (.invokespecial 18, 3) := by decide +kernel
theorem dX4_init_42 : decode cX4_init 42 = .ok (.putfield 25, 3) := by decide +kernel
theorem dX4_init_45 : decode cX4_init 45 = .ok (.return_, 1) := by decide +kernel
theorem dX4_setWeather_0 : decode cX4_setWeather 0 = .ok (.iload_n 1, 1) := by decide +kernel
theorem dX4_setWeather_1 : decode cX4_setWeather 1 = .ok (.iconst 0, 1) := by decide +kernel
theorem dX4_setWeather_2 : decode cX4_setWeather 2 = .ok (.bipush 27, 2) := by decide +kernel
theorem dX4_setWeather_4 : decode cX4_setWeather 4 = .ok (.invokestatic 28, 3) := by decide +kernel
theorem dX4_setWeather_7 : decode cX4_setWeather 7 = .ok (.invokestatic 32, 3) := by decide +kernel
theorem dX4_setWeather_10 : decode cX4_setWeather 10 = .ok (.iload_n 2, 1) := by decide +kernel
theorem dX4_setWeather_11 : decode cX4_setWeather 11 = .ok (.iconst 0, 1) := by decide +kernel
theorem dX4_setWeather_12 : decode cX4_setWeather 12 = .ok (.bipush 20, 2) := by decide +kernel
theorem dX4_setWeather_14 : decode cX4_setWeather 14 = .ok (.invokestatic 28, 3) := by decide +kernel
theorem dX4_setWeather_17 : decode cX4_setWeather 17 = .ok (.ifCond .eq 16, 3) := by decide +kernel
theorem dX4_setWeather_20 : decode cX4_setWeather 20 = .ok (.iload_n 3, 1) := by decide +kernel
theorem dX4_setWeather_21 : decode cX4_setWeather 21 = .ok (.iconst 0, 1) := by decide +kernel
theorem dX4_setWeather_22 : decode cX4_setWeather 22 = .ok (.iconst 3, 1) := by decide +kernel
theorem dX4_setWeather_23 : decode cX4_setWeather 23 = .ok (.invokestatic 28, 3) := by decide +kernel
theorem dX4_setWeather_26 : decode cX4_setWeather 26 = .ok (.ifCond .eq 7, 3) := by decide +kernel
theorem dX4_setWeather_29 : decode cX4_setWeather 29 = .ok (.iconst 1, 1) := by decide +kernel
theorem dX4_setWeather_30 : decode cX4_setWeather 30 = .ok (.goto 4, 3) := by decide +kernel
theorem dX4_setWeather_33 : decode cX4_setWeather 33 = .ok (.iconst 0, 1) := by decide +kernel
theorem dX4_setWeather_34 : decode cX4_setWeather 34 = .ok (.invokestatic 36, 3) := by decide +kernel
theorem dX4_setWeather_37 : decode cX4_setWeather 37 = .ok (.aload_n 0, 1) := by decide +kernel
theorem dX4_setWeather_38 : decode cX4_setWeather 38 = .ok (.getfield 10, 3) := by decide +kernel
theorem dX4_setWeather_41 : decode cX4_setWeather 41 = .ok (.iload_n 1, 1) := by decide +kernel
theorem dX4_setWeather_42 : decode cX4_setWeather 42 = .ok (.invokevirtual 39, 3) := by decide +kernel
theorem dX4_setWeather_45 : decode cX4_setWeather 45 = .ok (.istore 4, 2) := by decide +kernel
theorem dX4_setWeather_47 : decode cX4_setWeather 47 = .ok (.aload_n 0, 1) := by decide +kernel
theorem dX4_setWeather_48 : decode cX4_setWeather 48 = .ok (.getfield 10, 3) := by decide +kernel
theorem dX4_setWeather_51 : decode cX4_setWeather 51 = .ok (.iload_n 1, 1) := by decide +kernel
theorem dX4_setWeather_52 : decode cX4_setWeather 52 = .ok (.iload_n 2, 1) := by decide +kernel
theorem dX4_setWeather_53 : decode cX4_setWeather 53 = .ok (.iload_n 3, 1) := by decide +kernel
theorem dX4_setWeather_54 : decode cX4_setWeather 54 = .ok (.invokevirtual 43, 3) := by decide +kernel
theorem dX4_setWeather_57 : decode cX4_setWeather 57 = .ok (.iload 4, 2) := by decide +kernel
theorem dX4_setWeather_59 : decode cX4_setWeather 59 = .ok (.ireturn, 1) := by decide +kernel
theorem dX4_build_0 : decode cX4_build 0 = .ok (.iload_n 1, 1) := by decide +kernel
theorem dX4_build_1 : decode cX4_build 1 = .ok (.iconst 1, 1) := by decide +kernel
theorem dX4_build_2 : decode cX4_build 2 = .ok (.bipush 30, 2) := by decide +kernel
theorem dX4_build_4 : decode cX4_build 4 = .ok (.invokestatic 28, 3) := by decide +kernel
theorem dX4_build_7 : decode cX4_build 7 = .ok (.ifCond .eq 19, 3) := by decide +kernel
theorem dX4_build_10 : decode cX4_build 10 = .ok (.iload_n 2, 1) := by decide +kernel
theorem dX4_build_11 : decode cX4_build 11 = .ok (.bipush 10, 2) := by decide +kernel
theorem dX4_build_13 : decode cX4_build 13 = .ok (.sipush 900, 3) := by decide +kernel
theorem dX4_build_16 : decode cX4_build 16 = .ok (.invokestatic 28, 3) := by decide +kernel
theorem dX4_build_19 : decode cX4_build 19 = .ok (.ifCond .eq 7, 3) := by decide +kernel
theorem dX4_build_22 : decode cX4_build 22 = .ok (.iconst 1, 1) := by decide +kernel
theorem dX4_build_23 : decode cX4_build 23 = .ok (.goto 4, 3) := by decide +kernel
theorem dX4_build_26 : decode cX4_build 26 = .ok (.iconst 0, 1) := by decide +kernel
theorem dX4_build_27 : decode cX4_build 27 = .ok (.invokestatic 36, 3) := by decide +kernel
theorem dX4_build_30 : decode cX4_build 30 = .ok (.iload_n 3, 1) := by decide +kernel
theorem dX4_build_31 : decode cX4_build 31 = .ok (.iconst 0, 1) := by decide +kernel
theorem dX4_build_32 : decode cX4_build 32 = .ok (.bipush 9, 2) := by decide +kernel
theorem dX4_build_34 : decode cX4_build 34 = .ok (.invokestatic 28, 3) := by decide +kernel
theorem dX4_build_37 : decode cX4_build 37 = .ok (.ifCond .eq 18, 3) := by decide +kernel
theorem dX4_build_40 : decode cX4_build 40 = .ok (.iload 4, 2) := by decide +kernel
theorem dX4_build_42 : decode cX4_build 42 = .ok (.iconst 0, 1) := by decide +kernel
theorem dX4_build_43 : decode cX4_build 43 = .ok (.bipush 20, 2) := by decide +kernel
theorem dX4_build_45 : decode cX4_build 45 = .ok (.invokestatic 28, 3) := by decide +kernel
theorem dX4_build_48 : decode cX4_build 48 = .ok (.ifCond .eq 7, 3) := by decide +kernel
theorem dX4_build_51 : decode cX4_build 51 = .ok (.iconst 1, 1) := by decide +kernel
theorem dX4_build_52 : decode cX4_build 52 = .ok (.goto 4, 3) := by decide +kernel
theorem dX4_build_55 : decode cX4_build 55 = .ok (.iconst 0, 1) := by decide +kernel
theorem dX4_build_56 : decode cX4_build 56 = .ok (.invokestatic 36, 3) := by decide +kernel
theorem dX4_build_59 : decode cX4_build 59 = .ok (.aload_n 0, 1) := by decide +kernel
theorem dX4_build_60 : decode cX4_build 60 = .ok (.getfield 21, 3) := by decide +kernel
theorem dX4_build_63 : decode cX4_build 63 = .ok (.getfield 47, 3) := by decide +kernel
theorem dX4_build_66 : decode cX4_build 66 = .ok (.bipush 10, 2) := by decide +kernel
theorem dX4_build_68 : decode cX4_build 68 = .ok (.if_icmp .ge 7, 3) := by decide +kernel
theorem dX4_build_71 : decode cX4_build 71 = .ok (.iconst 1, 1) := by decide +kernel
theorem dX4_build_72 : decode cX4_build 72 = .ok (.goto 4, 3) := by decide +kernel
theorem dX4_build_75 : decode cX4_build 75 = .ok (.iconst 0, 1) := by decide +kernel
theorem dX4_build_76 : decode cX4_build 76 = .ok (.invokestatic 51, 3) := by decide +kernel
theorem dX4_build_79 : decode cX4_build 79 = .ok (.aload_n 0, 1) := by decide +kernel
theorem dX4_build_80 : decode cX4_build 80 = .ok (.getfield 21, 3) := by decide +kernel
theorem dX4_build_83 : decode cX4_build 83 = .ok (.iload_n 1, 1) := by decide +kernel
theorem dX4_build_84 : decode cX4_build 84 = .ok (.iload_n 2, 1) := by decide +kernel
theorem dX4_build_85 : decode cX4_build 85 = .ok (.iload_n 3, 1) := by decide +kernel
theorem dX4_build_86 : decode cX4_build 86 = .ok (.iload 4, 2) := by decide +kernel
theorem dX4_build_88 : decode cX4_build 88 = .ok (.invokevirtual 54, 3) := by decide +kernel
theorem dX4_build_91 : decode cX4_build 91 = .ok (.ireturn, 1) := by decide +kernel
theorem dX4_chain_0 : decode cX4_chain 0 = .ok (.aload_n 0, 1) := by decide +kernel
theorem dX4_chain_1 : decode cX4_chain 1 = .ok (.iload_n 1, 1) := by decide +kernel
theorem dX4_chain_2 : decode cX4_chain 2 = .ok (.invokevirtual 58, 3) := by decide +kernel
theorem dX4_chain_5 : decode cX4_chain 5 = .ok (.iload_n 2, 1) := by decide +kernel
theorem dX4_chain_6 : decode cX4_chain 6 = .ok (.iconst (-1), 1) := by decide +kernel
theorem dX4_chain_7 : decode cX4_chain 7 = .ok (.if_icmp .eq 14, 3) := by decide +kernel
theorem dX4_chain_10 : decode cX4_chain 10 = .ok (.aload_n 0, 1) := by decide +kernel
theorem dX4_chain_11 : decode cX4_chain 11 = .ok (.getfield 21, 3) := by decide +kernel
theorem dX4_chain_14 : decode cX4_chain 14 = .ok (.iload_n 2, 1) := by decide +kernel
theorem dX4_chain_15 : decode cX4_chain 15 = .ok (.invokevirtual 62, 3) := by decide +kernel
theorem dX4_chain_18 : decode cX4_chain 18 = .ok (.ifCond .eq 7, 3) := by decide +kernel
theorem dX4_chain_21 : decode cX4_chain 21 = .ok (.iconst 1, 1) := by decide +kernel
theorem dX4_chain_22 : decode cX4_chain 22 = .ok (.goto 4, 3) := by decide +kernel
theorem dX4_chain_25 : decode cX4_chain 25 = .ok (.iconst 0, 1) := by decide +kernel
theorem dX4_chain_26 : decode cX4_chain 26 = .ok (.invokestatic 32, 3) := by decide +kernel
theorem dX4_chain_29 : decode cX4_chain 29 = .ok (.iload_n 1, 1) := by decide +kernel
theorem dX4_chain_30 : decode cX4_chain 30 = .ok (.iload_n 2, 1) := by decide +kernel
theorem dX4_chain_31 : decode cX4_chain 31 = .ok (.if_icmp .eq 7, 3) := by decide +kernel
theorem dX4_chain_34 : decode cX4_chain 34 = .ok (.iconst 1, 1) := by decide +kernel
theorem dX4_chain_35 : decode cX4_chain 35 = .ok (.goto 4, 3) := by decide +kernel
theorem dX4_chain_38 : decode cX4_chain 38 = .ok (.iconst 0, 1) := by decide +kernel
theorem dX4_chain_39 : decode cX4_chain 39 = .ok (.invokestatic 36, 3) := by decide +kernel
theorem dX4_chain_42 : decode cX4_chain 42 = .ok (.aload_n 0, 1) := by decide +kernel
theorem dX4_chain_43 : decode cX4_chain 43 = .ok (.getfield 21, 3) := by decide +kernel
theorem dX4_chain_46 : decode cX4_chain 46 = .ok (.iload_n 2, 1) := by decide +kernel
theorem dX4_chain_47 : decode cX4_chain 47 = .ok (.iload_n 1, 1) := by decide +kernel
theorem dX4_chain_48 : decode cX4_chain 48 = .ok (.invokevirtual 66, 3) := by decide +kernel
theorem dX4_chain_51 : decode cX4_chain 51 = .ok (.ifCond .ne 7, 3) := by decide +kernel
theorem dX4_chain_54 : decode cX4_chain 54 = .ok (.iconst 1, 1) := by decide +kernel
theorem dX4_chain_55 : decode cX4_chain 55 = .ok (.goto 4, 3) := by decide +kernel
theorem dX4_chain_58 : decode cX4_chain 58 = .ok (.iconst 0, 1) := by decide +kernel
theorem dX4_chain_59 : decode cX4_chain 59 = .ok (.invokestatic 51, 3) := by decide +kernel
theorem dX4_chain_62 : decode cX4_chain 62 = .ok (.aload_n 0, 1) := by decide +kernel
theorem dX4_chain_63 : decode cX4_chain 63 = .ok (.getfield 21, 3) := by decide +kernel
theorem dX4_chain_66 : decode cX4_chain 66 = .ok (.getfield 70, 3) := by decide +kernel
theorem dX4_chain_69 : decode cX4_chain 69 = .ok (.iload_n 1, 1) := by decide +kernel
theorem dX4_chain_70 : decode cX4_chain 70 = .ok (.aaload, 1) := by decide +kernel
theorem dX4_chain_71 : decode cX4_chain 71 = .ok (.iload_n 2, 1) := by decide +kernel
theorem dX4_chain_72 : decode cX4_chain 72 = .ok (.putfield 74, 3) := by decide +kernel
theorem dX4_chain_75 : decode cX4_chain 75 = .ok (.aload_n 0, 1) := by decide +kernel
theorem dX4_chain_76 : decode cX4_chain 76 = .ok (.getfield 21, 3) := by decide +kernel
theorem dX4_chain_79 : decode cX4_chain 79 = .ok (.iload_n 2, 1) := by decide +kernel
theorem dX4_chain_80 : decode cX4_chain 80 = .ok (.invokevirtual 79, 3) := by decide +kernel
theorem dX4_chain_83 : decode cX4_chain 83 = .ok (.ireturn, 1) := by decide +kernel
theorem dX4_lay_0 : decode cX4_lay 0 = .ok (.aload_n 0, 1) := by decide +kernel
theorem dX4_lay_1 : decode cX4_lay 1 = .ok (.iload_n 1, 1) := by decide +kernel
theorem dX4_lay_2 : decode cX4_lay 2 = .ok (.invokevirtual 58, 3) := by decide +kernel
theorem dX4_lay_5 : decode cX4_lay 5 = .ok (.aload_n 0, 1) := by decide +kernel
theorem dX4_lay_6 : decode cX4_lay 6 = .ok (.iload_n 2, 1) := by decide +kernel
theorem dX4_lay_7 : decode cX4_lay 7 = .ok (.invokevirtual 58, 3) := by decide +kernel
theorem dX4_lay_10 : decode cX4_lay 10 = .ok (.iload_n 1, 1) := by decide +kernel
theorem dX4_lay_11 : decode cX4_lay 11 = .ok (.iload_n 2, 1) := by decide +kernel
theorem dX4_lay_12 : decode cX4_lay 12 = .ok (.if_icmp .eq 17, 3) := by decide +kernel
theorem dX4_lay_15 : decode cX4_lay 15 = .ok (.iload_n 3, 1) := by decide +kernel
theorem dX4_lay_16 : decode cX4_lay 16 = .ok (.iconst 1, 1) := by decide +kernel
theorem dX4_lay_17 : decode cX4_lay 17 = .ok (.bipush 50, 2) := by decide +kernel
theorem dX4_lay_19 : decode cX4_lay 19 = .ok (.invokestatic 28, 3) := by decide +kernel
theorem dX4_lay_22 : decode cX4_lay 22 = .ok (.ifCond .eq 7, 3) := by decide +kernel
theorem dX4_lay_25 : decode cX4_lay 25 = .ok (.iconst 1, 1) := by decide +kernel
theorem dX4_lay_26 : decode cX4_lay 26 = .ok (.goto 4, 3) := by decide +kernel
theorem dX4_lay_29 : decode cX4_lay 29 = .ok (.iconst 0, 1) := by decide +kernel
theorem dX4_lay_30 : decode cX4_lay 30 = .ok (.invokestatic 36, 3) := by decide +kernel
theorem dX4_lay_33 : decode cX4_lay 33 = .ok (.aload_n 0, 1) := by decide +kernel
theorem dX4_lay_34 : decode cX4_lay 34 = .ok (.getfield 21, 3) := by decide +kernel
theorem dX4_lay_37 : decode cX4_lay 37 = .ok (.getfield 82, 3) := by decide +kernel
theorem dX4_lay_40 : decode cX4_lay 40 = .ok (.bipush 12, 2) := by decide +kernel
theorem dX4_lay_42 : decode cX4_lay 42 = .ok (.if_icmp .ge 7, 3) := by decide +kernel
theorem dX4_lay_45 : decode cX4_lay 45 = .ok (.iconst 1, 1) := by decide +kernel
theorem dX4_lay_46 : decode cX4_lay 46 = .ok (.goto 4, 3) := by decide +kernel
theorem dX4_lay_49 : decode cX4_lay 49 = .ok (.iconst 0, 1) := by decide +kernel
theorem dX4_lay_50 : decode cX4_lay 50 = .ok (.invokestatic 51, 3) := by decide +kernel
theorem dX4_lay_53 : decode cX4_lay 53 = .ok (.aload_n 0, 1) := by decide +kernel
theorem dX4_lay_54 : decode cX4_lay 54 = .ok (.getfield 21, 3) := by decide +kernel
theorem dX4_lay_57 : decode cX4_lay 57 = .ok (.iload_n 1, 1) := by decide +kernel
theorem dX4_lay_58 : decode cX4_lay 58 = .ok (.iload_n 2, 1) := by decide +kernel
theorem dX4_lay_59 : decode cX4_lay 59 = .ok (.iload_n 3, 1) := by decide +kernel
theorem dX4_lay_60 : decode cX4_lay 60 = .ok (.invokevirtual 85, 3) := by decide +kernel
theorem dX4_lay_63 : decode cX4_lay 63 = .ok (.ireturn, 1) := by decide +kernel
theorem dX4_turn_0 : decode cX4_turn 0 = .ok (.aload_n 0, 1) := by decide +kernel
theorem dX4_turn_1 : decode cX4_turn 1 = .ok (.iload_n 1, 1) := by decide +kernel
theorem dX4_turn_2 : decode cX4_turn 2 = .ok (.invokevirtual 89, 3) := by decide +kernel
theorem dX4_turn_5 : decode cX4_turn 5 = .ok (.aload_n 0, 1) := by decide +kernel
theorem dX4_turn_6 : decode cX4_turn 6 = .ok (.getfield 21, 3) := by decide +kernel
theorem dX4_turn_9 : decode cX4_turn 9 = .ok (.getfield 92, 3) := by decide +kernel
theorem dX4_turn_12 : decode cX4_turn 12 = .ok (.iload_n 1, 1) := by decide +kernel
theorem dX4_turn_13 : decode cX4_turn 13 = .ok (.aaload, 1) := by decide +kernel
theorem dX4_turn_14 : decode cX4_turn 14 = .ok (.getfield 96, 3) := by decide +kernel
theorem dX4_turn_17 : decode cX4_turn 17 = .ok (.istore_n 3, 1) := by decide +kernel
theorem dX4_turn_18 : decode cX4_turn 18 = .ok (.aload_n 0, 1) := by decide +kernel
theorem dX4_turn_19 : decode cX4_turn 19 = .ok (.getfield 21, 3) := by decide +kernel
theorem dX4_turn_22 : decode cX4_turn 22 = .ok (.getfield 92, 3) := by decide +kernel
theorem dX4_turn_25 : decode cX4_turn 25 = .ok (.iload_n 1, 1) := by decide +kernel
theorem dX4_turn_26 : decode cX4_turn 26 = .ok (.aaload, 1) := by decide +kernel
theorem dX4_turn_27 : decode cX4_turn 27 = .ok (.iload_n 2, 1) := by decide +kernel
theorem dX4_turn_28 : decode cX4_turn 28 = .ok (.putfield 96, 3) := by decide +kernel
theorem dX4_turn_31 : decode cX4_turn 31 = .ok (.iload_n 3, 1) := by decide +kernel
theorem dX4_turn_32 : decode cX4_turn 32 = .ok (.ireturn, 1) := by decide +kernel
theorem dX4_clean_0 : decode cX4_clean 0 = .ok (.aload_n 0, 1) := by decide +kernel
theorem dX4_clean_1 : decode cX4_clean 1 = .ok (.iload_n 1, 1) := by decide +kernel
theorem dX4_clean_2 : decode cX4_clean 2 = .ok (.invokevirtual 58, 3) := by decide +kernel
theorem dX4_clean_5 : decode cX4_clean 5 = .ok (.aload_n 0, 1) := by decide +kernel
theorem dX4_clean_6 : decode cX4_clean 6 = .ok (.getfield 21, 3) := by decide +kernel
theorem dX4_clean_9 : decode cX4_clean 9 = .ok (.getfield 70, 3) := by decide +kernel
theorem dX4_clean_12 : decode cX4_clean 12 = .ok (.iload_n 1, 1) := by decide +kernel
theorem dX4_clean_13 : decode cX4_clean 13 = .ok (.aaload, 1) := by decide +kernel
theorem dX4_clean_14 : decode cX4_clean 14 = .ok (.getfield 102, 3) := by decide +kernel
theorem dX4_clean_17 : decode cX4_clean 17 = .ok (.istore_n 2, 1) := by decide +kernel
theorem dX4_clean_18 : decode cX4_clean 18 = .ok (.aload_n 0, 1) := by decide +kernel
theorem dX4_clean_19 : decode cX4_clean 19 = .ok (.getfield 21, 3) := by decide +kernel
theorem dX4_clean_22 : decode cX4_clean 22 = .ok (.getfield 70, 3) := by decide +kernel
theorem dX4_clean_25 : decode cX4_clean 25 = .ok (.iload_n 1, 1) := by decide +kernel
theorem dX4_clean_26 : decode cX4_clean 26 = .ok (.aaload, 1) := by decide +kernel
theorem dX4_clean_27 : decode cX4_clean 27 = .ok (.iconst 0, 1) := by decide +kernel
theorem dX4_clean_28 : decode cX4_clean 28 = .ok (.putfield 102, 3) := by decide +kernel
theorem dX4_clean_31 : decode cX4_clean 31 = .ok (.iload_n 2, 1) := by decide +kernel
theorem dX4_clean_32 : decode cX4_clean 32 = .ok (.ireturn, 1) := by decide +kernel
theorem dX4_cart_0 : decode cX4_cart 0 = .ok (.aload_n 0, 1) := by decide +kernel
theorem dX4_cart_1 : decode cX4_cart 1 = .ok (.iload_n 1, 1) := by decide +kernel
theorem dX4_cart_2 : decode cX4_cart 2 = .ok (.invokevirtual 58, 3) := by decide +kernel
theorem dX4_cart_5 : decode cX4_cart 5 = .ok (.iload_n 2, 1) := by decide +kernel
theorem dX4_cart_6 : decode cX4_cart 6 = .ok (.iconst 1, 1) := by decide +kernel
theorem dX4_cart_7 : decode cX4_cart 7 = .ok (.sipush 500, 3) := by decide +kernel
theorem dX4_cart_10 : decode cX4_cart 10 = .ok (.invokestatic 28, 3) := by decide +kernel
theorem dX4_cart_13 : decode cX4_cart 13 = .ok (.invokestatic 36, 3) := by decide +kernel
theorem dX4_cart_16 : decode cX4_cart 16 = .ok (.aload_n 0, 1) := by decide +kernel
theorem dX4_cart_17 : decode cX4_cart 17 = .ok (.getfield 21, 3) := by decide +kernel
theorem dX4_cart_20 : decode cX4_cart 20 = .ok (.dup, 1) := by decide +kernel
theorem dX4_cart_21 : decode cX4_cart 21 = .ok (.getfield 105, 3) := by decide +kernel
theorem dX4_cart_24 : decode cX4_cart 24 = .ok (.iload_n 2, 1) := by decide +kernel
theorem dX4_cart_25 : decode cX4_cart 25 = .ok (.iadd, 1) := by decide +kernel
theorem dX4_cart_26 : decode cX4_cart 26 = .ok (.putfield 105, 3) := by decide +kernel
theorem dX4_cart_29 : decode cX4_cart 29 = .ok (.aload_n 0, 1) := by decide +kernel
theorem dX4_cart_30 : decode cX4_cart 30 = .ok (.getfield 21, 3) := by decide +kernel
theorem dX4_cart_33 : decode cX4_cart 33 = .ok (.iload_n 1, 1) := by decide +kernel
theorem dX4_cart_34 : decode cX4_cart 34 = .ok (.iload_n 2, 1) := by decide +kernel
theorem dX4_cart_35 : decode cX4_cart 35 = .ok (.invokevirtual 108, 3) := by decide +kernel
theorem dX4_cart_38 : decode cX4_cart 38 = .ok (.ireturn, 1) := by decide +kernel
theorem dX4_setPeople_0 : decode cX4_setPeople 0 = .ok (.aload_n 0, 1) := by decide +kernel
theorem dX4_setPeople_1 : decode cX4_setPeople 1 = .ok (.iload_n 1, 1) := by decide +kernel
theorem dX4_setPeople_2 : decode cX4_setPeople 2 = .ok (.invokevirtual 58, 3) := by decide +kernel
theorem dX4_setPeople_5 : decode cX4_setPeople 5 = .ok (.iload_n 2, 1) := by decide +kernel
theorem dX4_setPeople_6 : decode cX4_setPeople 6 = .ok (.iconst 0, 1) := by decide +kernel
theorem dX4_setPeople_7 : decode cX4_setPeople 7 = .ok (.bipush 9, 2) := by decide +kernel
theorem dX4_setPeople_9 : decode cX4_setPeople 9 = .ok (.invokestatic 28, 3) := by decide +kernel
theorem dX4_setPeople_12 : decode cX4_setPeople 12 = .ok (.invokestatic 36, 3) := by decide +kernel
theorem dX4_setPeople_15 : decode cX4_setPeople 15 = .ok (.aload_n 0, 1) := by decide +kernel
theorem dX4_setPeople_16 : decode cX4_setPeople 16 = .ok (.getfield 21, 3) := by decide +kernel
theorem dX4_setPeople_19 : decode cX4_setPeople 19 = .ok (.getfield 70, 3) := by decide +kernel
theorem dX4_setPeople_22 : decode cX4_setPeople 22 = .ok (.iload_n 1, 1) := by decide +kernel
theorem dX4_setPeople_23 : decode cX4_setPeople 23 = .ok (.aaload, 1) := by decide +kernel
theorem dX4_setPeople_24 : decode cX4_setPeople 24 = .ok (.getfield 112, 3) := by decide +kernel
theorem dX4_setPeople_27 : decode cX4_setPeople 27 = .ok (.istore_n 3, 1) := by decide +kernel
theorem dX4_setPeople_28 : decode cX4_setPeople 28 = .ok (.aload_n 0, 1) := by decide +kernel
theorem dX4_setPeople_29 : decode cX4_setPeople 29 = .ok (.getfield 21, 3) := by decide +kernel
theorem dX4_setPeople_32 : decode cX4_setPeople 32 = .ok (.getfield 70, 3) := by decide +kernel
theorem dX4_setPeople_35 : decode cX4_setPeople 35 = .ok (.iload_n 1, 1) := by decide +kernel
theorem dX4_setPeople_36 : decode cX4_setPeople 36 = .ok (.aaload, 1) := by decide +kernel
theorem dX4_setPeople_37 : decode cX4_setPeople 37 = .ok (.iload_n 2, 1) := by decide +kernel
theorem dX4_setPeople_38 : decode cX4_setPeople 38 = .ok (.putfield 112, 3) := by decide +kernel
theorem dX4_setPeople_41 : decode cX4_setPeople 41 = .ok (.iload_n 3, 1) := by decide +kernel
theorem dX4_setPeople_42 : decode cX4_setPeople 42 = .ok (.ireturn, 1) := by decide +kernel
theorem dX4_house_0 : decode cX4_house 0 = .ok (.aload_n 0, 1) := by decide +kernel
theorem dX4_house_1 : decode cX4_house 1 = .ok (.iload_n 1, 1) := by decide +kernel
theorem dX4_house_2 : decode cX4_house 2 = .ok (.invokevirtual 58, 3) := by decide +kernel
theorem dX4_house_5 : decode cX4_house 5 = .ok (.iload_n 2, 1) := by decide +kernel
theorem dX4_house_6 : decode cX4_house 6 = .ok (.iconst 0, 1) := by decide +kernel
theorem dX4_house_7 : decode cX4_house 7 = .ok (.bipush 9, 2) := by decide +kernel
theorem dX4_house_9 : decode cX4_house 9 = .ok (.invokestatic 28, 3) := by decide +kernel
theorem dX4_house_12 : decode cX4_house 12 = .ok (.invokestatic 32, 3) := by decide +kernel
theorem dX4_house_15 : decode cX4_house 15 = .ok (.aload_n 0, 1) := by decide +kernel
theorem dX4_house_16 : decode cX4_house 16 = .ok (.getfield 21, 3) := by decide +kernel
theorem dX4_house_19 : decode cX4_house 19 = .ok (.getfield 70, 3) := by decide +kernel
theorem dX4_house_22 : decode cX4_house 22 = .ok (.iload_n 1, 1) := by decide +kernel
theorem dX4_house_23 : decode cX4_house 23 = .ok (.aaload, 1) := by decide +kernel
theorem dX4_house_24 : decode cX4_house 24 = .ok (.iload_n 2, 1) := by decide +kernel
theorem dX4_house_25 : decode cX4_house 25 = .ok (.invokevirtual 115, 3) := by decide +kernel
theorem dX4_house_28 : decode cX4_house 28 = .ok (.ireturn, 1) := by decide +kernel
theorem dX4_pipe_0 : decode cX4_pipe 0 = .ok (.aload_n 0, 1) := by decide +kernel
theorem dX4_pipe_1 : decode cX4_pipe 1 = .ok (.iload_n 1, 1) := by decide +kernel
theorem dX4_pipe_2 : decode cX4_pipe 2 = .ok (.invokevirtual 89, 3) := by decide +kernel
theorem dX4_pipe_5 : decode cX4_pipe 5 = .ok (.iload_n 2, 1) := by decide +kernel
theorem dX4_pipe_6 : decode cX4_pipe 6 = .ok (.iconst 0, 1) := by decide +kernel
theorem dX4_pipe_7 : decode cX4_pipe 7 = .ok (.iconst 4, 1) := by decide +kernel
theorem dX4_pipe_8 : decode cX4_pipe 8 = .ok (.invokestatic 28, 3) := by decide +kernel
theorem dX4_pipe_11 : decode cX4_pipe 11 = .ok (.invokestatic 32, 3) := by decide +kernel
theorem dX4_pipe_14 : decode cX4_pipe 14 = .ok (.aload_n 0, 1) := by decide +kernel
theorem dX4_pipe_15 : decode cX4_pipe 15 = .ok (.getfield 21, 3) := by decide +kernel
theorem dX4_pipe_18 : decode cX4_pipe 18 = .ok (.getfield 92, 3) := by decide +kernel
theorem dX4_pipe_21 : decode cX4_pipe 21 = .ok (.iload_n 1, 1) := by decide +kernel
theorem dX4_pipe_22 : decode cX4_pipe 22 = .ok (.aaload, 1) := by decide +kernel
theorem dX4_pipe_23 : decode cX4_pipe 23 = .ok (.iload_n 2, 1) := by decide +kernel
theorem dX4_pipe_24 : decode cX4_pipe 24 = .ok (.invokevirtual 118, 3) := by decide +kernel
theorem dX4_pipe_27 : decode cX4_pipe 27 = .ok (.ireturn, 1) := by decide +kernel
theorem dX4_owes_0 : decode cX4_owes 0 = .ok (.aload_n 0, 1) := by decide +kernel
theorem dX4_owes_1 : decode cX4_owes 1 = .ok (.iload_n 1, 1) := by decide +kernel
theorem dX4_owes_2 : decode cX4_owes 2 = .ok (.invokevirtual 58, 3) := by decide +kernel
theorem dX4_owes_5 : decode cX4_owes 5 = .ok (.aload_n 0, 1) := by decide +kernel
theorem dX4_owes_6 : decode cX4_owes 6 = .ok (.iload_n 2, 1) := by decide +kernel
theorem dX4_owes_7 : decode cX4_owes 7 = .ok (.invokevirtual 58, 3) := by decide +kernel
theorem dX4_owes_10 : decode cX4_owes 10 = .ok (.aload_n 0, 1) := by decide +kernel
theorem dX4_owes_11 : decode cX4_owes 11 = .ok (.getfield 21, 3) := by decide +kernel
theorem dX4_owes_14 : decode cX4_owes 14 = .ok (.iload_n 1, 1) := by decide +kernel
theorem dX4_owes_15 : decode cX4_owes 15 = .ok (.iload_n 2, 1) := by decide +kernel
theorem dX4_owes_16 : decode cX4_owes 16 = .ok (.invokevirtual 119, 3) := by decide +kernel
theorem dX4_owes_19 : decode cX4_owes 19 = .ok (.ireturn, 1) := by decide +kernel
theorem dX4_pass_0 : decode cX4_pass 0 = .ok (.iload_n 1, 1) := by decide +kernel
theorem dX4_pass_1 : decode cX4_pass 1 = .ok (.iconst 1, 1) := by decide +kernel
theorem dX4_pass_2 : decode cX4_pass 2 = .ok (.bipush 100, 2) := by decide +kernel
theorem dX4_pass_4 : decode cX4_pass 4 = .ok (.invokestatic 28, 3) := by decide +kernel
theorem dX4_pass_7 : decode cX4_pass 7 = .ok (.invokestatic 36, 3) := by decide +kernel
theorem dX4_pass_10 : decode cX4_pass 10 = .ok (.aload_n 0, 1) := by decide +kernel
theorem dX4_pass_11 : decode cX4_pass 11 = .ok (.getfield 21, 3) := by decide +kernel
theorem dX4_pass_14 : decode cX4_pass 14 = .ok (.iload_n 1, 1) := by decide +kernel
theorem dX4_pass_15 : decode cX4_pass 15 = .ok (.invokevirtual 122, 3) := by decide +kernel
theorem dX4_pass_18 : decode cX4_pass 18 = .ok (.ireturn, 1) := by decide +kernel
theorem dX4_count_0 : decode cX4_count 0 = .ok (.iload_n 1, 1) := by decide +kernel
theorem dX4_count_1 : decode cX4_count 1 = .ok (.iconst 0, 1) := by decide +kernel
theorem dX4_count_2 : decode cX4_count 2 = .ok (.bipush 10, 2) := by decide +kernel
theorem dX4_count_4 : decode cX4_count 4 = .ok (.invokestatic 28, 3) := by decide +kernel
theorem dX4_count_7 : decode cX4_count 7 = .ok (.invokestatic 32, 3) := by decide +kernel
theorem dX4_count_10 : decode cX4_count 10 = .ok (.aload_n 0, 1) := by decide +kernel
theorem dX4_count_11 : decode cX4_count 11 = .ok (.getfield 21, 3) := by decide +kernel
theorem dX4_count_14 : decode cX4_count 14 = .ok (.iload_n 1, 1) := by decide +kernel
theorem dX4_count_15 : decode cX4_count 15 = .ok (.invokevirtual 125, 3) := by decide +kernel
theorem dX4_count_18 : decode cX4_count 18 = .ok (.ireturn, 1) := by decide +kernel
theorem dX4_foresee_0 : decode cX4_foresee 0 = .ok (.iload_n 1, 1) := by decide +kernel
theorem dX4_foresee_1 : decode cX4_foresee 1 = .ok (.iconst 1, 1) := by decide +kernel
theorem dX4_foresee_2 : decode cX4_foresee 2 = .ok (.bipush 100, 2) := by decide +kernel
theorem dX4_foresee_4 : decode cX4_foresee 4 = .ok (.invokestatic 28, 3) := by decide +kernel
theorem dX4_foresee_7 : decode cX4_foresee 7 = .ok (.invokestatic 36, 3) := by decide +kernel
theorem dX4_foresee_10 : decode cX4_foresee 10 = .ok (.iload_n 2, 1) := by decide +kernel
theorem dX4_foresee_11 : decode cX4_foresee 11 = .ok (.iconst 0, 1) := by decide +kernel
theorem dX4_foresee_12 : decode cX4_foresee 12 = .ok (.iconst 2, 1) := by decide +kernel
theorem dX4_foresee_13 : decode cX4_foresee 13 = .ok (.invokestatic 28, 3) := by decide +kernel
theorem dX4_foresee_16 : decode cX4_foresee 16 = .ok (.invokestatic 32, 3) := by decide +kernel
theorem dX4_foresee_19 : decode cX4_foresee 19 = .ok (.aload_n 0, 1) := by decide +kernel
theorem dX4_foresee_20 : decode cX4_foresee 20 = .ok (.getfield 25, 3) := by decide +kernel
theorem dX4_foresee_23 : decode cX4_foresee 23 = .ok (.aload_n 0, 1) := by decide +kernel
theorem dX4_foresee_24 : decode cX4_foresee 24 = .ok (.getfield 21, 3) := by decide +kernel
theorem dX4_foresee_27 : decode cX4_foresee 27 = .ok (.invokevirtual 128, 3) := by decide +kernel
theorem dX4_foresee_30 : decode cX4_foresee 30 = .ok (.aload_n 0, 1) := by decide +kernel
theorem dX4_foresee_31 : decode cX4_foresee 31 = .ok (.getfield 25, 3) := by decide +kernel
theorem dX4_foresee_34 : decode cX4_foresee 34 = .ok (.iload_n 1, 1) := by decide +kernel
theorem dX4_foresee_35 : decode cX4_foresee 35 = .ok (.invokevirtual 122, 3) := by decide +kernel
theorem dX4_foresee_38 : decode cX4_foresee 38 = .ok (.istore_n 3, 1) := by decide +kernel
theorem dX4_foresee_39 : decode cX4_foresee 39 = .ok (.iload_n 2, 1) := by decide +kernel
theorem dX4_foresee_40 : decode cX4_foresee 40 = .ok (.lookupswitch 38 #[(0, 28), (1, 30)], 28) := by decide +kernel
theorem dX4_foresee_68 : decode cX4_foresee 68 = .ok (.iload_n 3, 1) := by decide +kernel
theorem dX4_foresee_69 : decode cX4_foresee 69 = .ok (.ireturn, 1) := by decide +kernel
theorem dX4_foresee_70 : decode cX4_foresee 70 = .ok (.aload_n 0, 1) := by decide +kernel
theorem dX4_foresee_71 : decode cX4_foresee 71 = .ok (.getfield 25, 3) := by decide +kernel
theorem dX4_foresee_74 : decode cX4_foresee 74 = .ok (.invokevirtual 132, 3) := by decide +kernel
theorem dX4_foresee_77 : decode cX4_foresee 77 = .ok (.ireturn, 1) := by decide +kernel
theorem dX4_foresee_78 : decode cX4_foresee 78 = .ok (.aload_n 0, 1) := by decide +kernel
theorem dX4_foresee_79 : decode cX4_foresee 79 = .ok (.getfield 25, 3) := by decide +kernel
theorem dX4_foresee_82 : decode cX4_foresee 82 = .ok (.getfield 136, 3) := by decide +kernel
theorem dX4_foresee_85 : decode cX4_foresee 85 = .ok (.aload_n 0, 1) := by decide +kernel
theorem dX4_foresee_86 : decode cX4_foresee 86 = .ok (.getfield 21, 3) := by decide +kernel
theorem dX4_foresee_89 : decode cX4_foresee 89 = .ok (.getfield 136, 3) := by decide +kernel
theorem dX4_foresee_92 : decode cX4_foresee 92 = .ok (.isub, 1) := by decide +kernel
theorem dX4_foresee_93 : decode cX4_foresee 93 = .ok (.ireturn, 1) := by decide +kernel
theorem dX4_lasts_0 : decode cX4_lasts 0 = .ok (.aload_n 0, 1) := by decide +kernel
theorem dX4_lasts_1 : decode cX4_lasts 1 = .ok (.iload_n 1, 1) := by decide +kernel
theorem dX4_lasts_2 : decode cX4_lasts 2 = .ok (.invokevirtual 58, 3) := by decide +kernel
theorem dX4_lasts_5 : decode cX4_lasts 5 = .ok (.aload_n 0, 1) := by decide +kernel
theorem dX4_lasts_6 : decode cX4_lasts 6 = .ok (.getfield 25, 3) := by decide +kernel
theorem dX4_lasts_9 : decode cX4_lasts 9 = .ok (.aload_n 0, 1) := by decide +kernel
theorem dX4_lasts_10 : decode cX4_lasts 10 = .ok (.getfield 21, 3) := by decide +kernel
theorem dX4_lasts_13 : decode cX4_lasts 13 = .ok (.invokevirtual 128, 3) := by decide +kernel
theorem dX4_lasts_16 : decode cX4_lasts 16 = .ok (.aload_n 0, 1) := by decide +kernel
theorem dX4_lasts_17 : decode cX4_lasts 17 = .ok (.getfield 25, 3) := by decide +kernel
theorem dX4_lasts_20 : decode cX4_lasts 20 = .ok (.iload_n 1, 1) := by decide +kernel
theorem dX4_lasts_21 : decode cX4_lasts 21 = .ok (.sipush 200, 3) := by decide +kernel
theorem dX4_lasts_24 : decode cX4_lasts 24 = .ok (.invokevirtual 139, 3) := by decide +kernel
theorem dX4_lasts_27 : decode cX4_lasts 27 = .ok (.ireturn, 1) := by decide +kernel
theorem dX4_full_0 : decode cX4_full 0 = .ok (.aload_n 0, 1) := by decide +kernel
theorem dX4_full_1 : decode cX4_full 1 = .ok (.getfield 21, 3) := by decide +kernel
theorem dX4_full_4 : decode cX4_full 4 = .ok (.invokevirtual 148, 3) := by decide +kernel
theorem dX4_full_7 : decode cX4_full 7 = .ok (.istore_n 1, 1) := by decide +kernel
theorem dX4_full_8 : decode cX4_full 8 = .ok (.iload_n 1, 1) := by decide +kernel
theorem dX4_full_9 : decode cX4_full 9 = .ok (.ifCond .le 17, 3) := by decide +kernel
theorem dX4_full_12 : decode cX4_full 12 = .ok (.aload_n 0, 1) := by decide +kernel
theorem dX4_full_13 : decode cX4_full 13 = .ok (.getfield 21, 3) := by decide +kernel
theorem dX4_full_16 : decode cX4_full 16 = .ok (.invokevirtual 132, 3) := by decide +kernel
theorem dX4_full_19 : decode cX4_full 19 = .ok (.i2d, 1) := by decide +kernel
theorem dX4_full_20 : decode cX4_full 20 = .ok (.iload_n 1, 1) := by decide +kernel
theorem dX4_full_21 : decode cX4_full 21 = .ok (.i2d, 1) := by decide +kernel
theorem dX4_full_22 : decode cX4_full 22 = .ok (.ddiv, 1) := by decide +kernel
theorem dX4_full_23 : decode cX4_full 23 = .ok (.goto 4, 3) := by decide +kernel
theorem dX4_full_26 : decode cX4_full 26 = .ok (.dconst 0, 1) := by decide +kernel
theorem dX4_full_27 : decode cX4_full 27 = .ok (.dreturn, 1) := by decide +kernel
theorem dX4_isWithin_0 : decode cX4_isWithin 0 = .ok (.iload_n 0, 1) := by decide +kernel
theorem dX4_isWithin_1 : decode cX4_isWithin 1 = .ok (.iload_n 1, 1) := by decide +kernel
theorem dX4_isWithin_2 : decode cX4_isWithin 2 = .ok (.if_icmp .lt 12, 3) := by decide +kernel
theorem dX4_isWithin_5 : decode cX4_isWithin 5 = .ok (.iload_n 0, 1) := by decide +kernel
theorem dX4_isWithin_6 : decode cX4_isWithin 6 = .ok (.iload_n 2, 1) := by decide +kernel
theorem dX4_isWithin_7 : decode cX4_isWithin 7 = .ok (.if_icmp .gt 7, 3) := by decide +kernel
theorem dX4_isWithin_10 : decode cX4_isWithin 10 = .ok (.iconst 1, 1) := by decide +kernel
theorem dX4_isWithin_11 : decode cX4_isWithin 11 = .ok (.goto 4, 3) := by decide +kernel
theorem dX4_isWithin_14 : decode cX4_isWithin 14 = .ok (.iconst 0, 1) := by decide +kernel
theorem dX4_isWithin_15 : decode cX4_isWithin 15 = .ok (.ireturn, 1) := by decide +kernel
theorem dX4_needHouse_0 : decode cX4_needHouse 0 = .ok (.aload_n 0, 1) := by decide +kernel
theorem dX4_needHouse_1 : decode cX4_needHouse 1 = .ok (.getfield 21, 3) := by decide +kernel
theorem dX4_needHouse_4 : decode cX4_needHouse 4 = .ok (.iload_n 1, 1) := by decide +kernel
theorem dX4_needHouse_5 : decode cX4_needHouse 5 = .ok (.invokevirtual 62, 3) := by decide +kernel
theorem dX4_needHouse_8 : decode cX4_needHouse 8 = .ok (.ifCond .ne 13, 3) := by decide +kernel
theorem dX4_needHouse_11 : decode cX4_needHouse 11 = .ok (.new 169, 3) := by decide +kernel
theorem dX4_needHouse_14 : decode cX4_needHouse 14 = .ok (.dup, 1) := by decide +kernel
theorem dX4_needHouse_15 : decode cX4_needHouse 15 = .ok (.ldc 171, 2) := by decide +kernel
theorem dX4_needHouse_17 : decode cX4_needHouse 17 = .ok (.invokespecial 173, 3) := by decide +kernel
theorem dX4_needHouse_20 : decode cX4_needHouse 20 = .ok (.athrow, 1) := by decide +kernel
theorem dX4_needHouse_21 : decode cX4_needHouse 21 = .ok (.return_, 1) := by decide +kernel
theorem dX4_needPipe_0 : decode cX4_needPipe 0 = .ok (.aload_n 0, 1) := by decide +kernel
theorem dX4_needPipe_1 : decode cX4_needPipe 1 = .ok (.getfield 21, 3) := by decide +kernel
theorem dX4_needPipe_4 : decode cX4_needPipe 4 = .ok (.iload_n 1, 1) := by decide +kernel
theorem dX4_needPipe_5 : decode cX4_needPipe 5 = .ok (.invokevirtual 176, 3) := by decide +kernel
theorem dX4_needPipe_8 : decode cX4_needPipe 8 = .ok (.ifCond .ne 13, 3) := by decide +kernel
theorem dX4_needPipe_11 : decode cX4_needPipe 11 = .ok (.new 169, 3) := by decide +kernel
theorem dX4_needPipe_14 : decode cX4_needPipe 14 = .ok (.dup, 1) := by decide +kernel
theorem dX4_needPipe_15 : decode cX4_needPipe 15 = .ok (.ldc 179, 2) := by decide +kernel
theorem dX4_needPipe_17 : decode cX4_needPipe 17 = .ok (.invokespecial 173, 3) := by decide +kernel
theorem dX4_needPipe_20 : decode cX4_needPipe 20 = .ok (.athrow, 1) := by decide +kernel
theorem dX4_needPipe_21 : decode cX4_needPipe 21 = .ok (.return_, 1) := by decide +kernel
theorem dX4_needIndex_0 : decode cX4_needIndex 0 = .ok (.iload_n 0, 1) := by decide +kernel
theorem dX4_needIndex_1 : decode cX4_needIndex 1 = .ok (.ifCond .ne 13, 3) := by decide +kernel
theorem dX4_needIndex_4 : decode cX4_needIndex 4 = .ok (.new 169, 3) := by decide +kernel
theorem dX4_needIndex_7 : decode cX4_needIndex 7 = .ok (.dup, 1) := by decide +kernel
theorem dX4_needIndex_8 : decode cX4_needIndex 8 = .ok (.ldc 181, 2) := by decide +kernel
theorem dX4_needIndex_10 : decode cX4_needIndex 10 = .ok (.invokespecial 173, 3) := by decide +kernel
theorem dX4_needIndex_13 : decode cX4_needIndex 13 = .ok (.athrow, 1) := by decide +kernel
theorem dX4_needIndex_14 : decode cX4_needIndex 14 = .ok (.return_, 1) := by decide +kernel
theorem dX4_needArgument_0 : decode cX4_needArgument 0 = .ok (.iload_n 0, 1) := by decide +kernel
theorem dX4_needArgument_1 : decode cX4_needArgument 1 = .ok (.ifCond .ne 13, 3) := by decide +kernel
theorem dX4_needArgument_4 : decode cX4_needArgument 4 = .ok (.new 183, 3) := by decide +kernel
theorem dX4_needArgument_7 : decode cX4_needArgument 7 = .ok (.dup, 1) := by decide +kernel
theorem dX4_needArgument_8 : decode cX4_needArgument 8 = .ok (.ldc 185, 2) := by decide +kernel
theorem dX4_needArgument_10 : decode cX4_needArgument 10 = .ok (.invokespecial 187, 3) := by decide +kernel
theorem dX4_needArgument_13 : decode cX4_needArgument 13 = .ok (.athrow, 1) := by decide +kernel
theorem dX4_needArgument_14 : decode cX4_needArgument 14 = .ok (.return_, 1) := by decide +kernel
theorem dX4_needState_0 : decode cX4_needState 0 = .ok (.iload_n 0, 1) := by decide +kernel
theorem dX4_needState_1 : decode cX4_needState 1 = .ok (.ifCond .ne 13, 3) := by decide +kernel
theorem dX4_needState_4 : decode cX4_needState 4 = .ok (.new 188, 3) := by decide +kernel
theorem dX4_needState_7 : decode cX4_needState 7 = .ok (.dup, 1) := by decide +kernel
theorem dX4_needState_8 : decode cX4_needState 8 = .ok (.ldc 190, 2) := by decide +kernel
theorem dX4_needState_10 : decode cX4_needState 10 = .ok (.invokespecial 192, 3) := by decide +kernel
theorem dX4_needState_13 : decode cX4_needState 13 = .ok (.athrow, 1) := by decide +kernel
theorem dX4_needState_14 : decode cX4_needState 14 = .ok (.return_, 1) := by decide +kernel
end
section
theorem dX5_init_0 : decode cX5_init 0 = .ok (.aload_n 0, 1) := by decide +kernel
theorem dX5_init_1 : decode cX5_init 1 = .ok (.invokespecial 1, 3) := by decide +kernel
theorem dX5_init_4 : decode cX5_init 4 = .ok (.aload_n 0, 1) := by decide +kernel
theorem dX5_init_5 : decode cX5_init 5 = .ok (.iconst (-1), 1) := by decide +kernel
theorem dX5_init_6 : decode cX5_init 6 = .ok (.putfield 7, 3) := by decide +kernel
theorem dX5_init_9 : decode cX5_init 9 = .ok (.return_, 1) := by decide +kernel
theorem dX6_init_0 : decode cX6_init 0 = .ok (.aload_n 0, 1) := by decide +kernel
theorem dX6_init_1 : decode cX6_init 1 = .ok (.invokespecial 1, 3) := by decide +kernel
theorem dX6_init_4 : decode cX6_init 4 = .ok (.aload_n 0, 1) := by decide +kernel
theorem dX6_init_5 : decode cX6_init 5 = .ok (.bipush 28, 2) := by decide +kernel
theorem dX6_init_7 : decode cX6_init 7 = .ok (.iconst 2, 1) := by decide +kernel
theorem dX6_init_8 : decode cX6_init 8 = .ok (.multianewarray 7 2, 4) := by decide +kernel
theorem dX6_init_12 : decode cX6_init 12 = .ok (.putfield 9, 3) := by decide +kernel
theorem dX6_init_15 : decode cX6_init 15 = .ok (.aload_n 0, 1) := by decide +kernel
theorem dX6_init_16 : decode cX6_init 16 = .ok (.iconst 0, 1) := by decide +kernel
theorem dX6_init_17 : decode cX6_init 17 = .ok (.anewarray 14, 3) := by decide +kernel
theorem dX6_init_20 : decode cX6_init 20 = .ok (.putfield 16, 3) := by decide +kernel
theorem dX6_init_23 : decode cX6_init 23 = .ok (.aload_n 0, 1) := by decide +kernel
theorem dX6_init_24 : decode cX6_init 24 = .ok (.iconst 0, 1) := by decide +kernel
theorem dX6_init_25 : decode cX6_init 25 = .ok (.anewarray 20, 3) := by decide +kernel
theorem dX6_init_28 : decode cX6_init 28 = .ok (.putfield 22, 3) := by decide +kernel
theorem dX6_init_31 : decode cX6_init 31 = .ok (.aload_n 0, 1) := by decide +kernel
theorem dX6_init_32 : decode cX6_init 32 = .ok (.bipush 10, 2) := by decide +kernel
theorem dX6_init_34 : decode cX6_init 34 = .ok (.bipush 10, 2) := by decide +kernel
theorem dX6_init_36 : decode cX6_init 36 = .ok (.multianewarray 7 2, 4) := by decide +kernel
theorem dX6_init_40 : decode cX6_init 40 = .ok (.putfield 25, 3) := by decide +kernel
theorem dX6_init_43 : decode cX6_init 43 = .ok (.return_, 1) := by decide +kernel
theorem dX6_build_0 : decode cX6_build 0 = .ok (.aload_n 0, 1) := by decide +kernel
theorem dX6_build_1 : decode cX6_build 1 = .ok (.getfield 16, 3) := by decide +kernel
theorem dX6_build_4 : decode cX6_build 4 = .ok (.arraylength, 1) := by decide +kernel
theorem dX6_build_5 : decode cX6_build 5 = .ok (.iconst 1, 1) := by decide +kernel
theorem dX6_build_6 : decode cX6_build 6 = .ok (.iadd, 1) := by decide +kernel
theorem dX6_build_7 : decode cX6_build 7 = .ok (.anewarray 14, 3) := by decide +kernel
theorem dX6_build_10 : decode cX6_build 10 = .ok (.astore 5, 2) := by decide +kernel
theorem dX6_build_12 : decode cX6_build 12 = .ok (.iconst 0, 1) := by decide +kernel
theorem dX6_build_13 : decode cX6_build 13 = .ok (.istore 6, 2) := by decide +kernel
theorem dX6_build_15 : decode cX6_build 15 = .ok (.iload 6, 2) := by decide +kernel
theorem dX6_build_17 : decode cX6_build 17 = .ok (.aload_n 0, 1) := by decide +kernel
theorem dX6_build_18 : decode cX6_build 18 = .ok (.getfield 16, 3) := by decide +kernel
theorem dX6_build_21 : decode cX6_build 21 = .ok (.arraylength, 1) := by decide +kernel
theorem dX6_build_22 : decode cX6_build 22 = .ok (.if_icmp .ge 21, 3) := by decide +kernel
theorem dX6_build_25 : decode cX6_build 25 = .ok (.aload 5, 2) := by decide +kernel
theorem dX6_build_27 : decode cX6_build 27 = .ok (.iload 6, 2) := by decide +kernel
theorem dX6_build_29 : decode cX6_build 29 = .ok (.aload_n 0, 1) := by decide +kernel
theorem dX6_build_30 : decode cX6_build 30 = .ok (.getfield 16, 3) := by decide +kernel
theorem dX6_build_33 : decode cX6_build 33 = .ok (.iload 6, 2) := by decide +kernel
theorem dX6_build_35 : decode cX6_build 35 = .ok (.aaload, 1) := by decide +kernel
theorem dX6_build_36 : decode cX6_build 36 = .ok (.aastore, 1) := by decide +kernel
theorem dX6_build_37 : decode cX6_build 37 = .ok (.iinc 6 1, 3) := by decide +kernel
theorem dX6_build_40 : decode cX6_build 40 = .ok (.goto (-25), 3) := by decide +kernel
theorem dX6_build_43 : decode cX6_build 43 = .ok (.new 14, 3) := by decide +kernel
theorem dX6_build_46 : decode cX6_build 46 = .ok (.dup, 1) := by decide +kernel
theorem dX6_build_47 : decode cX6_build 47 = .ok (.invokespecial 44, 3) := by decide +kernel
theorem dX6_build_50 : decode cX6_build 50 = .ok (.astore 6, 2) := by decide +kernel
theorem dX6_build_52 : decode cX6_build 52 = .ok (.aload 6, 2) := by decide +kernel
theorem dX6_build_54 : decode cX6_build 54 = .ok (.iload_n 1, 1) := by decide +kernel
theorem dX6_build_55 : decode cX6_build 55 = .ok (.putfield 45, 3) := by decide +kernel
theorem dX6_build_58 : decode cX6_build 58 = .ok (.aload 6, 2) := by decide +kernel
theorem dX6_build_60 : decode cX6_build 60 = .ok (.iload_n 2, 1) := by decide +kernel
theorem dX6_build_61 : decode cX6_build 61 = .ok (.putfield 48, 3) := by decide +kernel
theorem dX6_build_64 : decode cX6_build 64 = .ok (.aload 6, 2) := by decide +kernel
theorem dX6_build_66 : decode cX6_build 66 = .ok (.iload_n 3, 1) := by decide +kernel
theorem dX6_build_67 : decode cX6_build 67 = .ok (.putfield 51, 3) := by decide +kernel
theorem dX6_build_70 : decode cX6_build 70 = .ok (.aload 6, 2) := by decide +kernel
theorem dX6_build_72 : decode cX6_build 72 = .ok (.iload 4, 2) := by decide +kernel
theorem dX6_build_74 : decode cX6_build 74 = .ok (.putfield 54, 3) := by decide +kernel
theorem dX6_build_77 : decode cX6_build 77 = .ok (.aload 5, 2) := by decide +kernel
theorem dX6_build_79 : decode cX6_build 79 = .ok (.aload_n 0, 1) := by decide +kernel
theorem dX6_build_80 : decode cX6_build 80 = .ok (.getfield 16, 3) := by decide +kernel
theorem dX6_build_83 : decode cX6_build 83 = .ok (.arraylength, 1) := by decide +kernel
theorem dX6_build_84 : decode cX6_build 84 = .ok (.aload 6, 2) := by decide +kernel
theorem dX6_build_86 : decode cX6_build 86 = .ok (.aastore, 1) := by decide +kernel
theorem dX6_build_87 : decode cX6_build 87 = .ok (.aload_n 0, 1) := by decide +kernel
theorem dX6_build_88 : decode cX6_build 88 = .ok (.aload 5, 2) := by decide +kernel
theorem dX6_build_90 : decode cX6_build 90 = .ok (.putfield 16, 3) := by decide +kernel
theorem dX6_build_93 : decode cX6_build 93 = .ok (.return_, 1) := by decide +kernel
theorem dX6_lay_0 : decode cX6_lay 0 = .ok (.aload_n 0, 1) := by decide +kernel
theorem dX6_lay_1 : decode cX6_lay 1 = .ok (.getfield 22, 3) := by decide +kernel
theorem dX6_lay_4 : decode cX6_lay 4 = .ok (.arraylength, 1) := by decide +kernel
theorem dX6_lay_5 : decode cX6_lay 5 = .ok (.iconst 1, 1) := by decide +kernel
theorem dX6_lay_6 : decode cX6_lay 6 = .ok (.iadd, 1) := by decide +kernel
theorem dX6_lay_7 : decode cX6_lay 7 = .ok (.anewarray 20, 3) := by decide +kernel
theorem dX6_lay_10 : decode cX6_lay 10 = .ok (.astore 4, 2) := by decide +kernel
theorem dX6_lay_12 : decode cX6_lay 12 = .ok (.iconst 0, 1) := by decide +kernel
theorem dX6_lay_13 : decode cX6_lay 13 = .ok (.istore 5, 2) := by decide +kernel
theorem dX6_lay_15 : decode cX6_lay 15 = .ok (.iload 5, 2) := by decide +kernel
theorem dX6_lay_17 : decode cX6_lay 17 = .ok (.aload_n 0, 1) := by decide +kernel
theorem dX6_lay_18 : decode cX6_lay 18 = .ok (.getfield 22, 3) := by decide +kernel
theorem dX6_lay_21 : decode cX6_lay 21 = .ok (.arraylength, 1) := by decide +kernel
theorem dX6_lay_22 : decode cX6_lay 22 = .ok (.if_icmp .ge 21, 3) := by decide +kernel
theorem dX6_lay_25 : decode cX6_lay 25 = .ok (.aload 4, 2) := by decide +kernel
theorem dX6_lay_27 : decode cX6_lay 27 = .ok (.iload 5, 2) := by decide +kernel
theorem dX6_lay_29 : decode cX6_lay 29 = .ok (.aload_n 0, 1) := by decide +kernel
theorem dX6_lay_30 : decode cX6_lay 30 = .ok (.getfield 22, 3) := by decide +kernel
theorem dX6_lay_33 : decode cX6_lay 33 = .ok (.iload 5, 2) := by decide +kernel
theorem dX6_lay_35 : decode cX6_lay 35 = .ok (.aaload, 1) := by decide +kernel
theorem dX6_lay_36 : decode cX6_lay 36 = .ok (.aastore, 1) := by decide +kernel
theorem dX6_lay_37 : decode cX6_lay 37 = .ok (.iinc 5 1, 3) := by decide +kernel
theorem dX6_lay_40 : decode cX6_lay 40 = .ok (.goto (-25), 3) := by decide +kernel
theorem dX6_lay_43 : decode cX6_lay 43 = .ok (.aload 4, 2) := by decide +kernel
theorem dX6_lay_45 : decode cX6_lay 45 = .ok (.aload_n 0, 1) := by decide +kernel
theorem dX6_lay_46 : decode cX6_lay 46 = .ok (.getfield 22, 3) := by decide +kernel
theorem dX6_lay_49 : decode cX6_lay 49 = .ok (.arraylength, 1) := by decide +kernel
theorem dX6_lay_50 : decode cX6_lay 50 = .ok (.iconst 5, 1) := by decide +kernel
theorem dX6_lay_51 : decode cX6_lay 51 = .ok (.newarray .int, 2) := by decide +kernel
theorem dX6_lay_53 : decode cX6_lay 53 = .ok (.dup, 1) := by decide +kernel
theorem dX6_lay_54 : decode cX6_lay 54 = .ok (.iconst 0, 1) := by decide +kernel
theorem dX6_lay_55 : decode cX6_lay 55 = .ok (.iload_n 1, 1) := by decide +kernel
theorem dX6_lay_56 : decode cX6_lay 56 = .ok (.iastore, 1) := by decide +kernel
theorem dX6_lay_57 : decode cX6_lay 57 = .ok (.dup, 1) := by decide +kernel
theorem dX6_lay_58 : decode cX6_lay 58 = .ok (.iconst 1, 1) := by decide +kernel
theorem dX6_lay_59 : decode cX6_lay 59 = .ok (.iload_n 2, 1) := by decide +kernel
theorem dX6_lay_60 : decode cX6_lay 60 = .ok (.iastore, 1) := by decide +kernel
theorem dX6_lay_61 : decode cX6_lay 61 = .ok (.dup, 1) := by decide +kernel
theorem dX6_lay_62 : decode cX6_lay 62 = .ok (.iconst 2, 1) := by decide +kernel
theorem dX6_lay_63 : decode cX6_lay 63 = .ok (.iload_n 3, 1) := by decide +kernel
theorem dX6_lay_64 : decode cX6_lay 64 = .ok (.iastore, 1) := by decide +kernel
theorem dX6_lay_65 : decode cX6_lay 65 = .ok (.dup, 1) := by decide +kernel
theorem dX6_lay_66 : decode cX6_lay 66 = .ok (.iconst 3, 1) := by decide +kernel
theorem dX6_lay_67 : decode cX6_lay 67 = .ok (.iconst 1, 1) := by decide +kernel
theorem dX6_lay_68 : decode cX6_lay 68 = .ok (.iastore, 1) := by decide +kernel
theorem dX6_lay_69 : decode cX6_lay 69 = .ok (.dup, 1) := by decide +kernel
theorem dX6_lay_70 : decode cX6_lay 70 = .ok (.iconst 4, 1) := by decide +kernel
theorem dX6_lay_71 : decode cX6_lay 71 = .ok (.iconst 0, 1) := by decide +kernel
theorem dX6_lay_72 : decode cX6_lay 72 = .ok (.iastore, 1) := by decide +kernel
theorem dX6_lay_73 : decode cX6_lay 73 = .ok (.aastore, 1) := by decide +kernel
theorem dX6_lay_74 : decode cX6_lay 74 = .ok (.aload_n 0, 1) := by decide +kernel
theorem dX6_lay_75 : decode cX6_lay 75 = .ok (.aload 4, 2) := by decide +kernel
theorem dX6_lay_77 : decode cX6_lay 77 = .ok (.putfield 22, 3) := by decide +kernel
theorem dX6_lay_80 : decode cX6_lay 80 = .ok (.return_, 1) := by decide +kernel
theorem dX6_leads_0 : decode cX6_leads 0 = .ok (.iload_n 1, 1) := by decide +kernel
theorem dX6_leads_1 : decode cX6_leads 1 = .ok (.iload_n 2, 1) := by decide +kernel
theorem dX6_leads_2 : decode cX6_leads 2 = .ok (.if_icmp .eq 32, 3) := by decide +kernel
theorem dX6_leads_5 : decode cX6_leads 5 = .ok (.aload_n 0, 1) := by decide +kernel
theorem dX6_leads_6 : decode cX6_leads 6 = .ok (.getfield 16, 3) := by decide +kernel
theorem dX6_leads_9 : decode cX6_leads 9 = .ok (.iload_n 1, 1) := by decide +kernel
theorem dX6_leads_10 : decode cX6_leads 10 = .ok (.aaload, 1) := by decide +kernel
theorem dX6_leads_11 : decode cX6_leads 11 = .ok (.getfield 57, 3) := by decide +kernel
theorem dX6_leads_14 : decode cX6_leads 14 = .ok (.ifCond .lt 24, 3) := by decide +kernel
theorem dX6_leads_17 : decode cX6_leads 17 = .ok (.aload_n 0, 1) := by decide +kernel
theorem dX6_leads_18 : decode cX6_leads 18 = .ok (.aload_n 0, 1) := by decide +kernel
theorem dX6_leads_19 : decode cX6_leads 19 = .ok (.getfield 16, 3) := by decide +kernel
theorem dX6_leads_22 : decode cX6_leads 22 = .ok (.iload_n 1, 1) := by decide +kernel
theorem dX6_leads_23 : decode cX6_leads 23 = .ok (.aaload, 1) := by decide +kernel
theorem dX6_leads_24 : decode cX6_leads 24 = .ok (.getfield 57, 3) := by decide +kernel
theorem dX6_leads_27 : decode cX6_leads 27 = .ok (.iload_n 2, 1) := by decide +kernel
theorem dX6_leads_28 : decode cX6_leads 28 = .ok (.invokevirtual 60, 3) := by decide +kernel
theorem dX6_leads_31 : decode cX6_leads 31 = .ok (.ifCond .eq 7, 3) := by decide +kernel
theorem dX6_leads_34 : decode cX6_leads 34 = .ok (.iconst 1, 1) := by decide +kernel
theorem dX6_leads_35 : decode cX6_leads 35 = .ok (.goto 4, 3) := by decide +kernel
theorem dX6_leads_38 : decode cX6_leads 38 = .ok (.iconst 0, 1) := by decide +kernel
theorem dX6_leads_39 : decode cX6_leads 39 = .ok (.ireturn, 1) := by decide +kernel
theorem dX6_behind_0 : decode cX6_behind 0 = .ok (.iload_n 1, 1) := by decide +kernel
theorem dX6_behind_1 : decode cX6_behind 1 = .ok (.ifCond .ge 7, 3) := by decide +kernel
theorem dX6_behind_4 : decode cX6_behind 4 = .ok (.iconst 0, 1) := by decide +kernel
theorem dX6_behind_5 : decode cX6_behind 5 = .ok (.goto 18, 3) := by decide +kernel
theorem dX6_behind_8 : decode cX6_behind 8 = .ok (.iconst 1, 1) := by decide +kernel
theorem dX6_behind_9 : decode cX6_behind 9 = .ok (.aload_n 0, 1) := by decide +kernel
theorem dX6_behind_10 : decode cX6_behind 10 = .ok (.aload_n 0, 1) := by decide +kernel
theorem dX6_behind_11 : decode cX6_behind 11 = .ok (.getfield 16, 3) := by decide +kernel
theorem dX6_behind_14 : decode cX6_behind 14 = .ok (.iload_n 1, 1) := by decide +kernel
theorem dX6_behind_15 : decode cX6_behind 15 = .ok (.aaload, 1) := by decide +kernel
theorem dX6_behind_16 : decode cX6_behind 16 = .ok (.getfield 57, 3) := by decide +kernel
theorem dX6_behind_19 : decode cX6_behind 19 = .ok (.invokevirtual 64, 3) := by decide +kernel
theorem dX6_behind_22 : decode cX6_behind 22 = .ok (.iadd, 1) := by decide +kernel
theorem dX6_behind_23 : decode cX6_behind 23 = .ok (.ireturn, 1) := by decide +kernel
theorem dX6_pour_0 : decode cX6_pour 0 = .ok (.aload_n 0, 1) := by decide +kernel
theorem dX6_pour_1 : decode cX6_pour 1 = .ok (.getfield 16, 3) := by decide +kernel
theorem dX6_pour_4 : decode cX6_pour 4 = .ok (.iload_n 1, 1) := by decide +kernel
theorem dX6_pour_5 : decode cX6_pour 5 = .ok (.aaload, 1) := by decide +kernel
theorem dX6_pour_6 : decode cX6_pour 6 = .ok (.astore_n 3, 1) := by decide +kernel
theorem dX6_pour_7 : decode cX6_pour 7 = .ok (.iconst 0, 1) := by decide +kernel
theorem dX6_pour_8 : decode cX6_pour 8 = .ok (.aload_n 3, 1) := by decide +kernel
theorem dX6_pour_9 : decode cX6_pour 9 = .ok (.getfield 68, 3) := by decide +kernel
theorem dX6_pour_12 : decode cX6_pour 12 = .ok (.iload_n 2, 1) := by decide +kernel
theorem dX6_pour_13 : decode cX6_pour 13 = .ok (.iadd, 1) := by decide +kernel
theorem dX6_pour_14 : decode cX6_pour 14 = .ok (.aload_n 3, 1) := by decide +kernel
theorem dX6_pour_15 : decode cX6_pour 15 = .ok (.getfield 48, 3) := by decide +kernel
theorem dX6_pour_18 : decode cX6_pour 18 = .ok (.isub, 1) := by decide +kernel
theorem dX6_pour_19 : decode cX6_pour 19 = .ok (.invokestatic 71, 3) := by decide +kernel
theorem dX6_pour_22 : decode cX6_pour 22 = .ok (.istore 4, 2) := by decide +kernel
theorem dX6_pour_24 : decode cX6_pour 24 = .ok (.aload_n 3, 1) := by decide +kernel
theorem dX6_pour_25 : decode cX6_pour 25 = .ok (.dup, 1) := by decide +kernel
theorem dX6_pour_26 : decode cX6_pour 26 = .ok (.getfield 68, 3) := by decide +kernel
theorem dX6_pour_29 : decode cX6_pour 29 = .ok (.iload_n 2, 1) := by decide +kernel
theorem dX6_pour_30 : decode cX6_pour 30 = .ok (.iload 4, 2) := by decide +kernel
theorem dX6_pour_32 : decode cX6_pour 32 = .ok (.isub, 1) := by decide +kernel
theorem dX6_pour_33 : decode cX6_pour 33 = .ok (.iadd, 1) := by decide +kernel
theorem dX6_pour_34 : decode cX6_pour 34 = .ok (.putfield 68, 3) := by decide +kernel
theorem dX6_pour_37 : decode cX6_pour 37 = .ok (.iload 4, 2) := by decide +kernel
theorem dX6_pour_39 : decode cX6_pour 39 = .ok (.ifCond .ne 5, 3) := by decide +kernel
theorem dX6_pour_42 : decode cX6_pour 42 = .ok (.iconst 0, 1) := by decide +kernel
theorem dX6_pour_43 : decode cX6_pour 43 = .ok (.ireturn, 1) := by decide +kernel
theorem dX6_pour_44 : decode cX6_pour 44 = .ok (.aload_n 3, 1) := by decide +kernel
theorem dX6_pour_45 : decode cX6_pour 45 = .ok (.getfield 57, 3) := by decide +kernel
theorem dX6_pour_48 : decode cX6_pour 48 = .ok (.ifCond .lt 14, 3) := by decide +kernel
theorem dX6_pour_51 : decode cX6_pour 51 = .ok (.aload_n 0, 1) := by decide +kernel
theorem dX6_pour_52 : decode cX6_pour 52 = .ok (.aload_n 3, 1) := by decide +kernel
theorem dX6_pour_53 : decode cX6_pour 53 = .ok (.getfield 57, 3) := by decide +kernel
theorem dX6_pour_56 : decode cX6_pour 56 = .ok (.iload 4, 2) := by decide +kernel
theorem dX6_pour_58 : decode cX6_pour 58 = .ok (.invokevirtual 77, 3) := by decide +kernel
theorem dX6_pour_61 : decode cX6_pour 61 = .ok (.ireturn, 1) := by decide +kernel
theorem dX6_pour_62 : decode cX6_pour 62 = .ok (.aload_n 0, 1) := by decide +kernel
theorem dX6_pour_63 : decode cX6_pour 63 = .ok (.dup, 1) := by decide +kernel
theorem dX6_pour_64 : decode cX6_pour 64 = .ok (.getfield 41, 3) := by decide +kernel
theorem dX6_pour_67 : decode cX6_pour 67 = .ok (.iload 4, 2) := by decide +kernel
theorem dX6_pour_69 : decode cX6_pour 69 = .ok (.iadd, 1) := by decide +kernel
theorem dX6_pour_70 : decode cX6_pour 70 = .ok (.putfield 41, 3) := by decide +kernel
theorem dX6_pour_73 : decode cX6_pour 73 = .ok (.iload 4, 2) := by decide +kernel
theorem dX6_pour_75 : decode cX6_pour 75 = .ok (.ireturn, 1) := by decide +kernel
theorem dX6_pass_0 : decode cX6_pass 0 = .ok (.aload_n 0, 1) := by decide +kernel
theorem dX6_pass_1 : decode cX6_pass 1 = .ok (.getfield 9, 3) := by decide +kernel
theorem dX6_pass_4 : decode cX6_pass 4 = .ok (.aload_n 0, 1) := by decide +kernel
theorem dX6_pass_5 : decode cX6_pass 5 = .ok (.getfield 37, 3) := by decide +kernel
theorem dX6_pass_8 : decode cX6_pass 8 = .ok (.bipush 28, 2) := by decide +kernel
theorem dX6_pass_10 : decode cX6_pass 10 = .ok (.irem, 1) := by decide +kernel
theorem dX6_pass_11 : decode cX6_pass 11 = .ok (.aaload, 1) := by decide +kernel
theorem dX6_pass_12 : decode cX6_pass 12 = .ok (.astore_n 1, 1) := by decide +kernel
theorem dX6_pass_13 : decode cX6_pass 13 = .ok (.iconst 0, 1) := by decide +kernel
theorem dX6_pass_14 : decode cX6_pass 14 = .ok (.istore_n 2, 1) := by decide +kernel
theorem dX6_pass_15 : decode cX6_pass 15 = .ok (.iconst 0, 1) := by decide +kernel
theorem dX6_pass_16 : decode cX6_pass 16 = .ok (.istore_n 3, 1) := by decide +kernel
theorem dX6_pass_17 : decode cX6_pass 17 = .ok (.iload_n 3, 1) := by decide +kernel
theorem dX6_pass_18 : decode cX6_pass 18 = .ok (.aload_n 0, 1) := by decide +kernel
theorem dX6_pass_19 : decode cX6_pass 19 = .ok (.getfield 16, 3) := by decide +kernel
theorem dX6_pass_22 : decode cX6_pass 22 = .ok (.arraylength, 1) := by decide +kernel
theorem dX6_pass_23 : decode cX6_pass 23 = .ok (.if_icmp .ge 59, 3) := by decide +kernel
theorem dX6_pass_26 : decode cX6_pass 26 = .ok (.aload_n 0, 1) := by decide +kernel
theorem dX6_pass_27 : decode cX6_pass 27 = .ok (.getfield 16, 3) := by decide +kernel
theorem dX6_pass_30 : decode cX6_pass 30 = .ok (.iload_n 3, 1) := by decide +kernel
theorem dX6_pass_31 : decode cX6_pass 31 = .ok (.aaload, 1) := by decide +kernel
theorem dX6_pass_32 : decode cX6_pass 32 = .ok (.getfield 45, 3) := by decide +kernel
theorem dX6_pass_35 : decode cX6_pass 35 = .ok (.aload_n 1, 1) := by decide +kernel
theorem dX6_pass_36 : decode cX6_pass 36 = .ok (.iconst 0, 1) := by decide +kernel
theorem dX6_pass_37 : decode cX6_pass 37 = .ok (.iaload, 1) := by decide +kernel
theorem dX6_pass_38 : decode cX6_pass 38 = .ok (.imul, 1) := by decide +kernel
theorem dX6_pass_39 : decode cX6_pass 39 = .ok (.bipush 10, 2) := by decide +kernel
theorem dX6_pass_41 : decode cX6_pass 41 = .ok (.aload_n 0, 1) := by decide +kernel
theorem dX6_pass_42 : decode cX6_pass 42 = .ok (.getfield 16, 3) := by decide +kernel
theorem dX6_pass_45 : decode cX6_pass 45 = .ok (.iload_n 3, 1) := by decide +kernel
theorem dX6_pass_46 : decode cX6_pass 46 = .ok (.aaload, 1) := by decide +kernel
theorem dX6_pass_47 : decode cX6_pass 47 = .ok (.getfield 80, 3) := by decide +kernel
theorem dX6_pass_50 : decode cX6_pass 50 = .ok (.isub, 1) := by decide +kernel
theorem dX6_pass_51 : decode cX6_pass 51 = .ok (.imul, 1) := by decide +kernel
theorem dX6_pass_52 : decode cX6_pass 52 = .ok (.bipush 10, 2) := by decide +kernel
theorem dX6_pass_54 : decode cX6_pass 54 = .ok (.idiv, 1) := by decide +kernel
theorem dX6_pass_55 : decode cX6_pass 55 = .ok (.istore 4, 2) := by decide +kernel
theorem dX6_pass_57 : decode cX6_pass 57 = .ok (.aload_n 0, 1) := by decide +kernel
theorem dX6_pass_58 : decode cX6_pass 58 = .ok (.dup, 1) := by decide +kernel
theorem dX6_pass_59 : decode cX6_pass 59 = .ok (.getfield 83, 3) := by decide +kernel
theorem dX6_pass_62 : decode cX6_pass 62 = .ok (.iload 4, 2) := by decide +kernel
theorem dX6_pass_64 : decode cX6_pass 64 = .ok (.iadd, 1) := by decide +kernel
theorem dX6_pass_65 : decode cX6_pass 65 = .ok (.putfield 83, 3) := by decide +kernel
theorem dX6_pass_68 : decode cX6_pass 68 = .ok (.aload_n 0, 1) := by decide +kernel
theorem dX6_pass_69 : decode cX6_pass 69 = .ok (.iload_n 3, 1) := by decide +kernel
theorem dX6_pass_70 : decode cX6_pass 70 = .ok (.iload 4, 2) := by decide +kernel
theorem dX6_pass_72 : decode cX6_pass 72 = .ok (.invokevirtual 77, 3) := by decide +kernel
theorem dX6_pass_75 : decode cX6_pass 75 = .ok (.pop, 1) := by decide +kernel
theorem dX6_pass_76 : decode cX6_pass 76 = .ok (.iinc 3 1, 3) := by decide +kernel
theorem dX6_pass_79 : decode cX6_pass 79 = .ok (.goto (-62), 3) := by decide +kernel
theorem dX6_pass_82 : decode cX6_pass 82 = .ok (.aload_n 0, 1) := by decide +kernel
theorem dX6_pass_83 : decode cX6_pass 83 = .ok (.getfield 16, 3) := by decide +kernel
theorem dX6_pass_86 : decode cX6_pass 86 = .ok (.astore_n 3, 1) := by decide +kernel
theorem dX6_pass_87 : decode cX6_pass 87 = .ok (.aload_n 3, 1) := by decide +kernel
theorem dX6_pass_88 : decode cX6_pass 88 = .ok (.arraylength, 1) := by decide +kernel
theorem dX6_pass_89 : decode cX6_pass 89 = .ok (.istore 4, 2) := by decide +kernel
theorem dX6_pass_91 : decode cX6_pass 91 = .ok (.iconst 0, 1) := by decide +kernel
theorem dX6_pass_92 : decode cX6_pass 92 = .ok (.istore 5, 2) := by decide +kernel
theorem dX6_pass_94 : decode cX6_pass 94 = .ok (.iload 5, 2) := by decide +kernel
theorem dX6_pass_96 : decode cX6_pass 96 = .ok (.iload 4, 2) := by decide +kernel
theorem dX6_pass_98 : decode cX6_pass 98 = .ok (.if_icmp .ge 110, 3) := by decide +kernel
theorem dX6_pass_101 : decode cX6_pass 101 = .ok (.aload_n 3, 1) := by decide +kernel
theorem dX6_pass_102 : decode cX6_pass 102 = .ok (.iload 5, 2) := by decide +kernel
theorem dX6_pass_104 : decode cX6_pass 104 = .ok (.aaload, 1) := by decide +kernel
theorem dX6_pass_105 : decode cX6_pass 105 = .ok (.astore 6, 2) := by decide +kernel
theorem dX6_pass_107 : decode cX6_pass 107 = .ok (.iconst 0, 1) := by decide +kernel
theorem dX6_pass_108 : decode cX6_pass 108 = .ok (.iconst 3, 1) := by decide +kernel
theorem dX6_pass_109 : decode cX6_pass 109 = .ok (.aload 6, 2) := by decide +kernel
theorem dX6_pass_111 : decode cX6_pass 111 = .ok (.getfield 51, 3) := by decide +kernel
theorem dX6_pass_114 : decode cX6_pass 114 = .ok (.imul, 1) := by decide +kernel
theorem dX6_pass_115 : decode cX6_pass 115 = .ok (.aload 6, 2) := by decide +kernel
theorem dX6_pass_117 : decode cX6_pass 117 = .ok (.getfield 68, 3) := by decide +kernel
theorem dX6_pass_120 : decode cX6_pass 120 = .ok (.isub, 1) := by decide +kernel
theorem dX6_pass_121 : decode cX6_pass 121 = .ok (.invokestatic 71, 3) := by decide +kernel
theorem dX6_pass_124 : decode cX6_pass 124 = .ok (.istore 7, 2) := by decide +kernel
theorem dX6_pass_126 : decode cX6_pass 126 = .ok (.aload 6, 2) := by decide +kernel
theorem dX6_pass_128 : decode cX6_pass 128 = .ok (.dup, 1) := by decide +kernel
theorem dX6_pass_129 : decode cX6_pass 129 = .ok (.getfield 68, 3) := by decide +kernel
theorem dX6_pass_132 : decode cX6_pass 132 = .ok (.iconst 3, 1) := by decide +kernel
theorem dX6_pass_133 : decode cX6_pass 133 = .ok (.aload 6, 2) := by decide +kernel
theorem dX6_pass_135 : decode cX6_pass 135 = .ok (.getfield 51, 3) := by decide +kernel
theorem dX6_pass_138 : decode cX6_pass 138 = .ok (.imul, 1) := by decide +kernel
theorem dX6_pass_139 : decode cX6_pass 139 = .ok (.iload 7, 2) := by decide +kernel
theorem dX6_pass_141 : decode cX6_pass 141 = .ok (.isub, 1) := by decide +kernel
theorem dX6_pass_142 : decode cX6_pass 142 = .ok (.isub, 1) := by decide +kernel
theorem dX6_pass_143 : decode cX6_pass 143 = .ok (.putfield 68, 3) := by decide +kernel
theorem dX6_pass_146 : decode cX6_pass 146 = .ok (.aload 6, 2) := by decide +kernel
theorem dX6_pass_148 : decode cX6_pass 148 = .ok (.dup, 1) := by decide +kernel
theorem dX6_pass_149 : decode cX6_pass 149 = .ok (.getfield 86, 3) := by decide +kernel
theorem dX6_pass_152 : decode cX6_pass 152 = .ok (.iload 7, 2) := by decide +kernel
theorem dX6_pass_154 : decode cX6_pass 154 = .ok (.iadd, 1) := by decide +kernel
theorem dX6_pass_155 : decode cX6_pass 155 = .ok (.putfield 86, 3) := by decide +kernel
theorem dX6_pass_158 : decode cX6_pass 158 = .ok (.aload 6, 2) := by decide +kernel
theorem dX6_pass_160 : decode cX6_pass 160 = .ok (.dup, 1) := by decide +kernel
theorem dX6_pass_161 : decode cX6_pass 161 = .ok (.getfield 89, 3) := by decide +kernel
theorem dX6_pass_164 : decode cX6_pass 164 = .ok (.iload 7, 2) := by decide +kernel
theorem dX6_pass_166 : decode cX6_pass 166 = .ok (.ifCond .le 7, 3) := by decide +kernel
theorem dX6_pass_169 : decode cX6_pass 169 = .ok (.iconst 1, 1) := by decide +kernel
theorem dX6_pass_170 : decode cX6_pass 170 = .ok (.goto 4, 3) := by decide +kernel
theorem dX6_pass_173 : decode cX6_pass 173 = .ok (.iconst 0, 1) := by decide +kernel
theorem dX6_pass_174 : decode cX6_pass 174 = .ok (.iadd, 1) := by decide +kernel
theorem dX6_pass_175 : decode cX6_pass 175 = .ok (.putfield 89, 3) := by decide +kernel
theorem dX6_pass_178 : decode cX6_pass 178 = .ok (.aload_n 0, 1) := by decide +kernel
theorem dX6_pass_179 : decode cX6_pass 179 = .ok (.dup, 1) := by decide +kernel
theorem dX6_pass_180 : decode cX6_pass 180 = .ok (.getfield 92, 3) := by decide +kernel
theorem dX6_pass_183 : decode cX6_pass 183 = .ok (.iconst 3, 1) := by decide +kernel
theorem dX6_pass_184 : decode cX6_pass 184 = .ok (.aload 6, 2) := by decide +kernel
theorem dX6_pass_186 : decode cX6_pass 186 = .ok (.getfield 51, 3) := by decide +kernel
theorem dX6_pass_189 : decode cX6_pass 189 = .ok (.imul, 1) := by decide +kernel
theorem dX6_pass_190 : decode cX6_pass 190 = .ok (.iload 7, 2) := by decide +kernel
theorem dX6_pass_192 : decode cX6_pass 192 = .ok (.isub, 1) := by decide +kernel
theorem dX6_pass_193 : decode cX6_pass 193 = .ok (.iadd, 1) := by decide +kernel
theorem dX6_pass_194 : decode cX6_pass 194 = .ok (.putfield 92, 3) := by decide +kernel
theorem dX6_pass_197 : decode cX6_pass 197 = .ok (.iload_n 2, 1) := by decide +kernel
theorem dX6_pass_198 : decode cX6_pass 198 = .ok (.iload 7, 2) := by decide +kernel
theorem dX6_pass_200 : decode cX6_pass 200 = .ok (.iadd, 1) := by decide +kernel
theorem dX6_pass_201 : decode cX6_pass 201 = .ok (.istore_n 2, 1) := by decide +kernel
theorem dX6_pass_202 : decode cX6_pass 202 = .ok (.iinc 5 1, 3) := by decide +kernel
theorem dX6_pass_205 : decode cX6_pass 205 = .ok (.goto (-111), 3) := by decide +kernel
theorem dX6_pass_208 : decode cX6_pass 208 = .ok (.aload_n 0, 1) := by decide +kernel
theorem dX6_pass_209 : decode cX6_pass 209 = .ok (.getfield 16, 3) := by decide +kernel
theorem dX6_pass_212 : decode cX6_pass 212 = .ok (.astore_n 3, 1) := by decide +kernel
theorem dX6_pass_213 : decode cX6_pass 213 = .ok (.aload_n 3, 1) := by decide +kernel
theorem dX6_pass_214 : decode cX6_pass 214 = .ok (.arraylength, 1) := by decide +kernel
theorem dX6_pass_215 : decode cX6_pass 215 = .ok (.istore 4, 2) := by decide +kernel
theorem dX6_pass_217 : decode cX6_pass 217 = .ok (.iconst 0, 1) := by decide +kernel
theorem dX6_pass_218 : decode cX6_pass 218 = .ok (.istore 5, 2) := by decide +kernel
theorem dX6_pass_220 : decode cX6_pass 220 = .ok (.iload 5, 2) := by decide +kernel
theorem dX6_pass_222 : decode cX6_pass 222 = .ok (.iload 4, 2) := by decide +kernel
theorem dX6_pass_224 : decode cX6_pass 224 = .ok (.if_icmp .ge 76, 3) := by decide +kernel
theorem dX6_pass_227 : decode cX6_pass 227 = .ok (.aload_n 3, 1) := by decide +kernel
theorem dX6_pass_228 : decode cX6_pass 228 = .ok (.iload 5, 2) := by decide +kernel
theorem dX6_pass_230 : decode cX6_pass 230 = .ok (.aaload, 1) := by decide +kernel
theorem dX6_pass_231 : decode cX6_pass 231 = .ok (.astore 6, 2) := by decide +kernel
theorem dX6_pass_233 : decode cX6_pass 233 = .ok (.iconst 0, 1) := by decide +kernel
theorem dX6_pass_234 : decode cX6_pass 234 = .ok (.istore 7, 2) := by decide +kernel
theorem dX6_pass_236 : decode cX6_pass 236 = .ok (.iload 7, 2) := by decide +kernel
theorem dX6_pass_238 : decode cX6_pass 238 = .ok (.aload 6, 2) := by decide +kernel
theorem dX6_pass_240 : decode cX6_pass 240 = .ok (.getfield 54, 3) := by decide +kernel
theorem dX6_pass_243 : decode cX6_pass 243 = .ok (.if_icmp .ge 51, 3) := by decide +kernel
theorem dX6_pass_246 : decode cX6_pass 246 = .ok (.iconst 2, 1) := by decide +kernel
theorem dX6_pass_247 : decode cX6_pass 247 = .ok (.aload 6, 2) := by decide +kernel
theorem dX6_pass_249 : decode cX6_pass 249 = .ok (.getfield 68, 3) := by decide +kernel
theorem dX6_pass_252 : decode cX6_pass 252 = .ok (.iconst 1, 1) := by decide +kernel
theorem dX6_pass_253 : decode cX6_pass 253 = .ok (.isub, 1) := by decide +kernel
theorem dX6_pass_254 : decode cX6_pass 254 = .ok (.imul, 1) := by decide +kernel
theorem dX6_pass_255 : decode cX6_pass 255 = .ok (.aload 6, 2) := by decide +kernel
theorem dX6_pass_257 : decode cX6_pass 257 = .ok (.getfield 48, 3) := by decide +kernel
theorem dX6_pass_260 : decode cX6_pass 260 = .ok (.if_icmp .ge 6, 3) := by decide +kernel
theorem dX6_pass_263 : decode cX6_pass 263 = .ok (.goto 31, 3) := by decide +kernel
theorem dX6_pass_266 : decode cX6_pass 266 = .ok (.aload 6, 2) := by decide +kernel
theorem dX6_pass_268 : decode cX6_pass 268 = .ok (.dup, 1) := by decide +kernel
theorem dX6_pass_269 : decode cX6_pass 269 = .ok (.getfield 68, 3) := by decide +kernel
theorem dX6_pass_272 : decode cX6_pass 272 = .ok (.iconst 1, 1) := by decide +kernel
theorem dX6_pass_273 : decode cX6_pass 273 = .ok (.isub, 1) := by decide +kernel
theorem dX6_pass_274 : decode cX6_pass 274 = .ok (.putfield 68, 3) := by decide +kernel
theorem dX6_pass_277 : decode cX6_pass 277 = .ok (.aload 6, 2) := by decide +kernel
theorem dX6_pass_279 : decode cX6_pass 279 = .ok (.dup, 1) := by decide +kernel
theorem dX6_pass_280 : decode cX6_pass 280 = .ok (.getfield 95, 3) := by decide +kernel
theorem dX6_pass_283 : decode cX6_pass 283 = .ok (.iconst 1, 1) := by decide +kernel
theorem dX6_pass_284 : decode cX6_pass 284 = .ok (.iadd, 1) := by decide +kernel
theorem dX6_pass_285 : decode cX6_pass 285 = .ok (.putfield 95, 3) := by decide +kernel
theorem dX6_pass_288 : decode cX6_pass 288 = .ok (.iinc 7 1, 3) := by decide +kernel
theorem dX6_pass_291 : decode cX6_pass 291 = .ok (.goto (-55), 3) := by decide +kernel
theorem dX6_pass_294 : decode cX6_pass 294 = .ok (.iinc 5 1, 3) := by decide +kernel
theorem dX6_pass_297 : decode cX6_pass 297 = .ok (.goto (-77), 3) := by decide +kernel
theorem dX6_pass_300 : decode cX6_pass 300 = .ok (.aload_n 0, 1) := by decide +kernel
theorem dX6_pass_301 : decode cX6_pass 301 = .ok (.getfield 22, 3) := by decide +kernel
theorem dX6_pass_304 : decode cX6_pass 304 = .ok (.astore_n 3, 1) := by decide +kernel
theorem dX6_pass_305 : decode cX6_pass 305 = .ok (.aload_n 3, 1) := by decide +kernel
theorem dX6_pass_306 : decode cX6_pass 306 = .ok (.arraylength, 1) := by decide +kernel
theorem dX6_pass_307 : decode cX6_pass 307 = .ok (.istore 4, 2) := by decide +kernel
theorem dX6_pass_309 : decode cX6_pass 309 = .ok (.iconst 0, 1) := by decide +kernel
theorem dX6_pass_310 : decode cX6_pass 310 = .ok (.istore 5, 2) := by decide +kernel
theorem dX6_pass_312 : decode cX6_pass 312 = .ok (.iload 5, 2) := by decide +kernel
theorem dX6_pass_314 : decode cX6_pass 314 = .ok (.iload 4, 2) := by decide +kernel
theorem dX6_pass_316 : decode cX6_pass 316 = .ok (.if_icmp .ge 219, 3) := by decide +kernel
theorem dX6_pass_319 : decode cX6_pass 319 = .ok (.aload_n 3, 1) := by decide +kernel
theorem dX6_pass_320 : decode cX6_pass 320 = .ok (.iload 5, 2) := by decide +kernel
theorem dX6_pass_322 : decode cX6_pass 322 = .ok (.aaload, 1) := by decide +kernel
theorem dX6_pass_323 : decode cX6_pass 323 = .ok (.astore 6, 2) := by decide +kernel
theorem dX6_pass_325 : decode cX6_pass 325 = .ok (.aload 6, 2) := by decide +kernel
theorem dX6_pass_327 : decode cX6_pass 327 = .ok (.iconst 3, 1) := by decide +kernel
theorem dX6_pass_328 : decode cX6_pass 328 = .ok (.iaload, 1) := by decide +kernel
theorem dX6_pass_329 : decode cX6_pass 329 = .ok (.ifCond .ne 6, 3) := by decide +kernel
theorem dX6_pass_332 : decode cX6_pass 332 = .ok (.goto 197, 3) := by decide +kernel
theorem dX6_pass_335 : decode cX6_pass 335 = .ok (.aload_n 0, 1) := by decide +kernel
theorem dX6_pass_336 : decode cX6_pass 336 = .ok (.getfield 16, 3) := by decide +kernel
theorem dX6_pass_339 : decode cX6_pass 339 = .ok (.aload 6, 2) := by decide +kernel
theorem dX6_pass_341 : decode cX6_pass 341 = .ok (.iconst 0, 1) := by decide +kernel
theorem dX6_pass_342 : decode cX6_pass 342 = .ok (.iaload, 1) := by decide +kernel
theorem dX6_pass_343 : decode cX6_pass 343 = .ok (.aaload, 1) := by decide +kernel
theorem dX6_pass_344 : decode cX6_pass 344 = .ok (.astore 7, 2) := by decide +kernel
theorem dX6_pass_346 : decode cX6_pass 346 = .ok (.aload_n 0, 1) := by decide +kernel
theorem dX6_pass_347 : decode cX6_pass 347 = .ok (.getfield 16, 3) := by decide +kernel
theorem dX6_pass_350 : decode cX6_pass 350 = .ok (.aload 6, 2) := by decide +kernel
theorem dX6_pass_352 : decode cX6_pass 352 = .ok (.iconst 1, 1) := by decide +kernel
theorem dX6_pass_353 : decode cX6_pass 353 = .ok (.iaload, 1) := by decide +kernel
theorem dX6_pass_354 : decode cX6_pass 354 = .ok (.aaload, 1) := by decide +kernel
theorem dX6_pass_355 : decode cX6_pass 355 = .ok (.astore 8, 2) := by decide +kernel
theorem dX6_pass_357 : decode cX6_pass 357 = .ok (.aload 7, 2) := by decide +kernel
theorem dX6_pass_359 : decode cX6_pass 359 = .ok (.getfield 68, 3) := by decide +kernel
theorem dX6_pass_362 : decode cX6_pass 362 = .ok (.aload 8, 2) := by decide +kernel
theorem dX6_pass_364 : decode cX6_pass 364 = .ok (.getfield 48, 3) := by decide +kernel
theorem dX6_pass_367 : decode cX6_pass 367 = .ok (.imul, 1) := by decide +kernel
theorem dX6_pass_368 : decode cX6_pass 368 = .ok (.aload 8, 2) := by decide +kernel
theorem dX6_pass_370 : decode cX6_pass 370 = .ok (.getfield 68, 3) := by decide +kernel
theorem dX6_pass_373 : decode cX6_pass 373 = .ok (.aload 7, 2) := by decide +kernel
theorem dX6_pass_375 : decode cX6_pass 375 = .ok (.getfield 48, 3) := by decide +kernel
theorem dX6_pass_378 : decode cX6_pass 378 = .ok (.imul, 1) := by decide +kernel
theorem dX6_pass_379 : decode cX6_pass 379 = .ok (.isub, 1) := by decide +kernel
theorem dX6_pass_380 : decode cX6_pass 380 = .ok (.istore 9, 2) := by decide +kernel
theorem dX6_pass_382 : decode cX6_pass 382 = .ok (.iload 9, 2) := by decide +kernel
theorem dX6_pass_384 : decode cX6_pass 384 = .ok (.ifCond .ge 7, 3) := by decide +kernel
theorem dX6_pass_387 : decode cX6_pass 387 = .ok (.iconst 1, 1) := by decide +kernel
theorem dX6_pass_388 : decode cX6_pass 388 = .ok (.goto 4, 3) := by decide +kernel
theorem dX6_pass_391 : decode cX6_pass 391 = .ok (.iconst 0, 1) := by decide +kernel
theorem dX6_pass_392 : decode cX6_pass 392 = .ok (.istore 10, 2) := by decide +kernel
theorem dX6_pass_394 : decode cX6_pass 394 = .ok (.aload 6, 2) := by decide +kernel
theorem dX6_pass_396 : decode cX6_pass 396 = .ok (.iconst 2, 1) := by decide +kernel
theorem dX6_pass_397 : decode cX6_pass 397 = .ok (.iaload, 1) := by decide +kernel
theorem dX6_pass_398 : decode cX6_pass 398 = .ok (.iload 10, 2) := by decide +kernel
theorem dX6_pass_400 : decode cX6_pass 400 = .ok (.ifCond .eq 9, 3) := by decide +kernel
theorem dX6_pass_403 : decode cX6_pass 403 = .ok (.iload 9, 2) := by decide +kernel
theorem dX6_pass_405 : decode cX6_pass 405 = .ok (.ineg, 1) := by decide +kernel
theorem dX6_pass_406 : decode cX6_pass 406 = .ok (.goto 5, 3) := by decide +kernel
theorem dX6_pass_409 : decode cX6_pass 409 = .ok (.iload 9, 2) := by decide +kernel
theorem dX6_pass_411 : decode cX6_pass 411 = .ok (.aload 7, 2) := by decide +kernel
theorem dX6_pass_413 : decode cX6_pass 413 = .ok (.getfield 48, 3) := by decide +kernel
theorem dX6_pass_416 : decode cX6_pass 416 = .ok (.aload 8, 2) := by decide +kernel
theorem dX6_pass_418 : decode cX6_pass 418 = .ok (.getfield 48, 3) := by decide +kernel
theorem dX6_pass_421 : decode cX6_pass 421 = .ok (.iadd, 1) := by decide +kernel
theorem dX6_pass_422 : decode cX6_pass 422 = .ok (.idiv, 1) := by decide +kernel
theorem dX6_pass_423 : decode cX6_pass 423 = .ok (.invokestatic 98, 3) := by decide +kernel
theorem dX6_pass_426 : decode cX6_pass 426 = .ok (.istore 11, 2) := by decide +kernel
theorem dX6_pass_428 : decode cX6_pass 428 = .ok (.aload 7, 2) := by decide +kernel
theorem dX6_pass_430 : decode cX6_pass 430 = .ok (.dup, 1) := by decide +kernel
theorem dX6_pass_431 : decode cX6_pass 431 = .ok (.getfield 68, 3) := by decide +kernel
theorem dX6_pass_434 : decode cX6_pass 434 = .ok (.iload 10, 2) := by decide +kernel
theorem dX6_pass_436 : decode cX6_pass 436 = .ok (.ifCond .eq 8, 3) := by decide +kernel
theorem dX6_pass_439 : decode cX6_pass 439 = .ok (.iload 11, 2) := by decide +kernel
theorem dX6_pass_441 : decode cX6_pass 441 = .ok (.goto 6, 3) := by decide +kernel
theorem dX6_pass_444 : decode cX6_pass 444 = .ok (.iload 11, 2) := by decide +kernel
theorem dX6_pass_446 : decode cX6_pass 446 = .ok (.ineg, 1) := by decide +kernel
theorem dX6_pass_447 : decode cX6_pass 447 = .ok (.iadd, 1) := by decide +kernel
theorem dX6_pass_448 : decode cX6_pass 448 = .ok (.putfield 68, 3) := by decide +kernel
theorem dX6_pass_451 : decode cX6_pass 451 = .ok (.aload 8, 2) := by decide +kernel
theorem dX6_pass_453 : decode cX6_pass 453 = .ok (.dup, 1) := by decide +kernel
theorem dX6_pass_454 : decode cX6_pass 454 = .ok (.getfield 68, 3) := by decide +kernel
theorem dX6_pass_457 : decode cX6_pass 457 = .ok (.iload 10, 2) := by decide +kernel
theorem dX6_pass_459 : decode cX6_pass 459 = .ok (.ifCond .eq 9, 3) := by decide +kernel
theorem dX6_pass_462 : decode cX6_pass 462 = .ok (.iload 11, 2) := by decide +kernel
theorem dX6_pass_464 : decode cX6_pass 464 = .ok (.ineg, 1) := by decide +kernel
theorem dX6_pass_465 : decode cX6_pass 465 = .ok (.goto 5, 3) := by decide +kernel
theorem dX6_pass_468 : decode cX6_pass 468 = .ok (.iload 11, 2) := by decide +kernel
theorem dX6_pass_470 : decode cX6_pass 470 = .ok (.iadd, 1) := by decide +kernel
theorem dX6_pass_471 : decode cX6_pass 471 = .ok (.putfield 68, 3) := by decide +kernel
theorem dX6_pass_474 : decode cX6_pass 474 = .ok (.aload 6, 2) := by decide +kernel
theorem dX6_pass_476 : decode cX6_pass 476 = .ok (.iconst 4, 1) := by decide +kernel
theorem dX6_pass_477 : decode cX6_pass 477 = .ok (.dup2, 1) := by decide +kernel
theorem dX6_pass_478 : decode cX6_pass 478 = .ok (.iaload, 1) := by decide +kernel
theorem dX6_pass_479 : decode cX6_pass 479 = .ok (.iload 11, 2) := by decide +kernel
theorem dX6_pass_481 : decode cX6_pass 481 = .ok (.iadd, 1) := by decide +kernel
theorem dX6_pass_482 : decode cX6_pass 482 = .ok (.iastore, 1) := by decide +kernel
theorem dX6_pass_483 : decode cX6_pass 483 = .ok (.iload 10, 2) := by decide +kernel
theorem dX6_pass_485 : decode cX6_pass 485 = .ok (.ifCond .eq 25, 3) := by decide +kernel
theorem dX6_pass_488 : decode cX6_pass 488 = .ok (.aload_n 0, 1) := by decide +kernel
theorem dX6_pass_489 : decode cX6_pass 489 = .ok (.getfield 25, 3) := by decide +kernel
theorem dX6_pass_492 : decode cX6_pass 492 = .ok (.aload 6, 2) := by decide +kernel
theorem dX6_pass_494 : decode cX6_pass 494 = .ok (.iconst 0, 1) := by decide +kernel
theorem dX6_pass_495 : decode cX6_pass 495 = .ok (.iaload, 1) := by decide +kernel
theorem dX6_pass_496 : decode cX6_pass 496 = .ok (.aaload, 1) := by decide +kernel
theorem dX6_pass_497 : decode cX6_pass 497 = .ok (.aload 6, 2) := by decide +kernel
theorem dX6_pass_499 : decode cX6_pass 499 = .ok (.iconst 1, 1) := by decide +kernel
theorem dX6_pass_500 : decode cX6_pass 500 = .ok (.iaload, 1) := by decide +kernel
theorem dX6_pass_501 : decode cX6_pass 501 = .ok (.dup2, 1) := by decide +kernel
theorem dX6_pass_502 : decode cX6_pass 502 = .ok (.iaload, 1) := by decide +kernel
theorem dX6_pass_503 : decode cX6_pass 503 = .ok (.iload 11, 2) := by decide +kernel
theorem dX6_pass_505 : decode cX6_pass 505 = .ok (.iadd, 1) := by decide +kernel
theorem dX6_pass_506 : decode cX6_pass 506 = .ok (.iastore, 1) := by decide +kernel
theorem dX6_pass_507 : decode cX6_pass 507 = .ok (.goto 22, 3) := by decide +kernel
theorem dX6_pass_510 : decode cX6_pass 510 = .ok (.aload_n 0, 1) := by decide +kernel
theorem dX6_pass_511 : decode cX6_pass 511 = .ok (.getfield 25, 3) := by decide +kernel
theorem dX6_pass_514 : decode cX6_pass 514 = .ok (.aload 6, 2) := by decide +kernel
theorem dX6_pass_516 : decode cX6_pass 516 = .ok (.iconst 1, 1) := by decide +kernel
theorem dX6_pass_517 : decode cX6_pass 517 = .ok (.iaload, 1) := by decide +kernel
theorem dX6_pass_518 : decode cX6_pass 518 = .ok (.aaload, 1) := by decide +kernel
theorem dX6_pass_519 : decode cX6_pass 519 = .ok (.aload 6, 2) := by decide +kernel
theorem dX6_pass_521 : decode cX6_pass 521 = .ok (.iconst 0, 1) := by decide +kernel
theorem dX6_pass_522 : decode cX6_pass 522 = .ok (.iaload, 1) := by decide +kernel
theorem dX6_pass_523 : decode cX6_pass 523 = .ok (.dup2, 1) := by decide +kernel
theorem dX6_pass_524 : decode cX6_pass 524 = .ok (.iaload, 1) := by decide +kernel
theorem dX6_pass_525 : decode cX6_pass 525 = .ok (.iload 11, 2) := by decide +kernel
theorem dX6_pass_527 : decode cX6_pass 527 = .ok (.iadd, 1) := by decide +kernel
theorem dX6_pass_528 : decode cX6_pass 528 = .ok (.iastore, 1) := by decide +kernel
theorem dX6_pass_529 : decode cX6_pass 529 = .ok (.iinc 5 1, 3) := by decide +kernel
theorem dX6_pass_532 : decode cX6_pass 532 = .ok (.goto (-220), 3) := by decide +kernel
theorem dX6_pass_535 : decode cX6_pass 535 = .ok (.aload_n 0, 1) := by decide +kernel
theorem dX6_pass_536 : decode cX6_pass 536 = .ok (.getfield 16, 3) := by decide +kernel
theorem dX6_pass_539 : decode cX6_pass 539 = .ok (.astore_n 3, 1) := by decide +kernel
theorem dX6_pass_540 : decode cX6_pass 540 = .ok (.aload_n 3, 1) := by decide +kernel
theorem dX6_pass_541 : decode cX6_pass 541 = .ok (.arraylength, 1) := by decide +kernel
theorem dX6_pass_542 : decode cX6_pass 542 = .ok (.istore 4, 2) := by decide +kernel
theorem dX6_pass_544 : decode cX6_pass 544 = .ok (.iconst 0, 1) := by decide +kernel
theorem dX6_pass_545 : decode cX6_pass 545 = .ok (.istore 5, 2) := by decide +kernel
theorem dX6_pass_547 : decode cX6_pass 547 = .ok (.iload 5, 2) := by decide +kernel
theorem dX6_pass_549 : decode cX6_pass 549 = .ok (.iload 4, 2) := by decide +kernel
theorem dX6_pass_551 : decode cX6_pass 551 = .ok (.if_icmp .ge 34, 3) := by decide +kernel
theorem dX6_pass_554 : decode cX6_pass 554 = .ok (.aload_n 3, 1) := by decide +kernel
theorem dX6_pass_555 : decode cX6_pass 555 = .ok (.iload 5, 2) := by decide +kernel
theorem dX6_pass_557 : decode cX6_pass 557 = .ok (.aaload, 1) := by decide +kernel
theorem dX6_pass_558 : decode cX6_pass 558 = .ok (.astore 6, 2) := by decide +kernel
theorem dX6_pass_560 : decode cX6_pass 560 = .ok (.aload 6, 2) := by decide +kernel
theorem dX6_pass_562 : decode cX6_pass 562 = .ok (.bipush 10, 2) := by decide +kernel
theorem dX6_pass_564 : decode cX6_pass 564 = .ok (.aload 6, 2) := by decide +kernel
theorem dX6_pass_566 : decode cX6_pass 566 = .ok (.getfield 80, 3) := by decide +kernel
theorem dX6_pass_569 : decode cX6_pass 569 = .ok (.aload_n 1, 1) := by decide +kernel
theorem dX6_pass_570 : decode cX6_pass 570 = .ok (.iconst 1, 1) := by decide +kernel
theorem dX6_pass_571 : decode cX6_pass 571 = .ok (.iaload, 1) := by decide +kernel
theorem dX6_pass_572 : decode cX6_pass 572 = .ok (.iadd, 1) := by decide +kernel
theorem dX6_pass_573 : decode cX6_pass 573 = .ok (.invokestatic 98, 3) := by decide +kernel
theorem dX6_pass_576 : decode cX6_pass 576 = .ok (.putfield 80, 3) := by decide +kernel
theorem dX6_pass_579 : decode cX6_pass 579 = .ok (.iinc 5 1, 3) := by decide +kernel
theorem dX6_pass_582 : decode cX6_pass 582 = .ok (.goto (-35), 3) := by decide +kernel
theorem dX6_pass_585 : decode cX6_pass 585 = .ok (.aload_n 0, 1) := by decide +kernel
theorem dX6_pass_586 : decode cX6_pass 586 = .ok (.dup, 1) := by decide +kernel
theorem dX6_pass_587 : decode cX6_pass 587 = .ok (.getfield 37, 3) := by decide +kernel
theorem dX6_pass_590 : decode cX6_pass 590 = .ok (.iconst 1, 1) := by decide +kernel
theorem dX6_pass_591 : decode cX6_pass 591 = .ok (.iadd, 1) := by decide +kernel
theorem dX6_pass_592 : decode cX6_pass 592 = .ok (.putfield 37, 3) := by decide +kernel
theorem dX6_pass_595 : decode cX6_pass 595 = .ok (.iload_n 2, 1) := by decide +kernel
theorem dX6_pass_596 : decode cX6_pass 596 = .ok (.ireturn, 1) := by decide +kernel
theorem dX6_all_0 : decode cX6_all 0 = .ok (.iconst 0, 1) := by decide +kernel
theorem dX6_all_1 : decode cX6_all 1 = .ok (.istore_n 1, 1) := by decide +kernel
theorem dX6_all_2 : decode cX6_all 2 = .ok (.aload_n 0, 1) := by decide +kernel
theorem dX6_all_3 : decode cX6_all 3 = .ok (.getfield 16, 3) := by decide +kernel
theorem dX6_all_6 : decode cX6_all 6 = .ok (.astore_n 2, 1) := by decide +kernel
theorem dX6_all_7 : decode cX6_all 7 = .ok (.aload_n 2, 1) := by decide +kernel
theorem dX6_all_8 : decode cX6_all 8 = .ok (.arraylength, 1) := by decide +kernel
theorem dX6_all_9 : decode cX6_all 9 = .ok (.istore_n 3, 1) := by decide +kernel
theorem dX6_all_10 : decode cX6_all 10 = .ok (.iconst 0, 1) := by decide +kernel
theorem dX6_all_11 : decode cX6_all 11 = .ok (.istore 4, 2) := by decide +kernel
theorem dX6_all_13 : decode cX6_all 13 = .ok (.iload 4, 2) := by decide +kernel
theorem dX6_all_15 : decode cX6_all 15 = .ok (.iload_n 3, 1) := by decide +kernel
theorem dX6_all_16 : decode cX6_all 16 = .ok (.if_icmp .ge 23, 3) := by decide +kernel
theorem dX6_all_19 : decode cX6_all 19 = .ok (.aload_n 2, 1) := by decide +kernel
theorem dX6_all_20 : decode cX6_all 20 = .ok (.iload 4, 2) := by decide +kernel
theorem dX6_all_22 : decode cX6_all 22 = .ok (.aaload, 1) := by decide +kernel
theorem dX6_all_23 : decode cX6_all 23 = .ok (.astore 5, 2) := by decide +kernel
theorem dX6_all_25 : decode cX6_all 25 = .ok (.iload_n 1, 1) := by decide +kernel
theorem dX6_all_26 : decode cX6_all 26 = .ok (.aload 5, 2) := by decide +kernel
theorem dX6_all_28 : decode cX6_all 28 = .ok (.getfield 68, 3) := by decide +kernel
theorem dX6_all_31 : decode cX6_all 31 = .ok (.iadd, 1) := by decide +kernel
theorem dX6_all_32 : decode cX6_all 32 = .ok (.istore_n 1, 1) := by decide +kernel
theorem dX6_all_33 : decode cX6_all 33 = .ok (.iinc 4 1, 3) := by decide +kernel
theorem dX6_all_36 : decode cX6_all 36 = .ok (.goto (-23), 3) := by decide +kernel
theorem dX6_all_39 : decode cX6_all 39 = .ok (.iload_n 1, 1) := by decide +kernel
theorem dX6_all_40 : decode cX6_all 40 = .ok (.ireturn, 1) := by decide +kernel
theorem dX6_isSame_0 : decode cX6_isSame 0 = .ok (.iconst 0, 1) := by decide +kernel
theorem dX6_isSame_1 : decode cX6_isSame 1 = .ok (.istore_n 2, 1) := by decide +kernel
theorem dX6_isSame_2 : decode cX6_isSame 2 = .ok (.iconst 0, 1) := by decide +kernel
theorem dX6_isSame_3 : decode cX6_isSame 3 = .ok (.istore_n 3, 1) := by decide +kernel
theorem dX6_isSame_4 : decode cX6_isSame 4 = .ok (.iconst 0, 1) := by decide +kernel
theorem dX6_isSame_5 : decode cX6_isSame 5 = .ok (.istore 4, 2) := by decide +kernel
theorem dX6_isSame_7 : decode cX6_isSame 7 = .ok (.iconst 0, 1) := by decide +kernel
theorem dX6_isSame_8 : decode cX6_isSame 8 = .ok (.istore 5, 2) := by decide +kernel
theorem dX6_isSame_10 : decode cX6_isSame 10 = .ok (.iconst 0, 1) := by decide +kernel
theorem dX6_isSame_11 : decode cX6_isSame 11 = .ok (.istore 6, 2) := by decide +kernel
theorem dX6_isSame_13 : decode cX6_isSame 13 = .ok (.iload 6, 2) := by decide +kernel
theorem dX6_isSame_15 : decode cX6_isSame 15 = .ok (.aload_n 0, 1) := by decide +kernel
theorem dX6_isSame_16 : decode cX6_isSame 16 = .ok (.getfield 16, 3) := by decide +kernel
theorem dX6_isSame_19 : decode cX6_isSame 19 = .ok (.arraylength, 1) := by decide +kernel
theorem dX6_isSame_20 : decode cX6_isSame 20 = .ok (.if_icmp .ge 221, 3) := by decide +kernel
theorem dX6_isSame_23 : decode cX6_isSame 23 = .ok (.aload_n 0, 1) := by decide +kernel
theorem dX6_isSame_24 : decode cX6_isSame 24 = .ok (.getfield 16, 3) := by decide +kernel
theorem dX6_isSame_27 : decode cX6_isSame 27 = .ok (.iload 6, 2) := by decide +kernel
theorem dX6_isSame_29 : decode cX6_isSame 29 = .ok (.aaload, 1) := by decide +kernel
theorem dX6_isSame_30 : decode cX6_isSame 30 = .ok (.astore 7, 2) := by decide +kernel
theorem dX6_isSame_32 : decode cX6_isSame 32 = .ok (.bipush 10, 2) := by decide +kernel
theorem dX6_isSame_34 : decode cX6_isSame 34 = .ok (.newarray .int, 2) := by decide +kernel
theorem dX6_isSame_36 : decode cX6_isSame 36 = .ok (.dup, 1) := by decide +kernel
theorem dX6_isSame_37 : decode cX6_isSame 37 = .ok (.iconst 0, 1) := by decide +kernel
theorem dX6_isSame_38 : decode cX6_isSame 38 = .ok (.aload 7, 2) := by decide +kernel
theorem dX6_isSame_40 : decode cX6_isSame 40 = .ok (.getfield 45, 3) := by decide +kernel
theorem dX6_isSame_43 : decode cX6_isSame 43 = .ok (.iastore, 1) := by decide +kernel
theorem dX6_isSame_44 : decode cX6_isSame 44 = .ok (.dup, 1) := by decide +kernel
theorem dX6_isSame_45 : decode cX6_isSame 45 = .ok (.iconst 1, 1) := by decide +kernel
theorem dX6_isSame_46 : decode cX6_isSame 46 = .ok (.aload 7, 2) := by decide +kernel
theorem dX6_isSame_48 : decode cX6_isSame 48 = .ok (.getfield 48, 3) := by decide +kernel
theorem dX6_isSame_51 : decode cX6_isSame 51 = .ok (.iastore, 1) := by decide +kernel
theorem dX6_isSame_52 : decode cX6_isSame 52 = .ok (.dup, 1) := by decide +kernel
theorem dX6_isSame_53 : decode cX6_isSame 53 = .ok (.iconst 2, 1) := by decide +kernel
theorem dX6_isSame_54 : decode cX6_isSame 54 = .ok (.aload 7, 2) := by decide +kernel
theorem dX6_isSame_56 : decode cX6_isSame 56 = .ok (.getfield 68, 3) := by decide +kernel
theorem dX6_isSame_59 : decode cX6_isSame 59 = .ok (.iastore, 1) := by decide +kernel
theorem dX6_isSame_60 : decode cX6_isSame 60 = .ok (.dup, 1) := by decide +kernel
theorem dX6_isSame_61 : decode cX6_isSame 61 = .ok (.iconst 3, 1) := by decide +kernel
theorem dX6_isSame_62 : decode cX6_isSame 62 = .ok (.aload 7, 2) := by decide +kernel
theorem dX6_isSame_64 : decode cX6_isSame 64 = .ok (.getfield 51, 3) := by decide +kernel
theorem dX6_isSame_67 : decode cX6_isSame 67 = .ok (.iastore, 1) := by decide +kernel
theorem dX6_isSame_68 : decode cX6_isSame 68 = .ok (.dup, 1) := by decide +kernel
theorem dX6_isSame_69 : decode cX6_isSame 69 = .ok (.iconst 4, 1) := by decide +kernel
theorem dX6_isSame_70 : decode cX6_isSame 70 = .ok (.aload 7, 2) := by decide +kernel
theorem dX6_isSame_72 : decode cX6_isSame 72 = .ok (.getfield 54, 3) := by decide +kernel
theorem dX6_isSame_75 : decode cX6_isSame 75 = .ok (.iastore, 1) := by decide +kernel
theorem dX6_isSame_76 : decode cX6_isSame 76 = .ok (.dup, 1) := by decide +kernel
theorem dX6_isSame_77 : decode cX6_isSame 77 = .ok (.iconst 5, 1) := by decide +kernel
theorem dX6_isSame_78 : decode cX6_isSame 78 = .ok (.aload 7, 2) := by decide +kernel
theorem dX6_isSame_80 : decode cX6_isSame 80 = .ok (.getfield 80, 3) := by decide +kernel
theorem dX6_isSame_83 : decode cX6_isSame 83 = .ok (.iastore, 1) := by decide +kernel
theorem dX6_isSame_84 : decode cX6_isSame 84 = .ok (.dup, 1) := by decide +kernel
theorem dX6_isSame_85 : decode cX6_isSame 85 = .ok (.bipush 6, 2) := by decide +kernel
theorem dX6_isSame_87 : decode cX6_isSame 87 = .ok (.aload 7, 2) := by decide +kernel
theorem dX6_isSame_89 : decode cX6_isSame 89 = .ok (.getfield 57, 3) := by decide +kernel
theorem dX6_isSame_92 : decode cX6_isSame 92 = .ok (.iastore, 1) := by decide +kernel
theorem dX6_isSame_93 : decode cX6_isSame 93 = .ok (.dup, 1) := by decide +kernel
theorem dX6_isSame_94 : decode cX6_isSame 94 = .ok (.bipush 7, 2) := by decide +kernel
theorem dX6_isSame_96 : decode cX6_isSame 96 = .ok (.aload 7, 2) := by decide +kernel
theorem dX6_isSame_98 : decode cX6_isSame 98 = .ok (.getfield 86, 3) := by decide +kernel
theorem dX6_isSame_101 : decode cX6_isSame 101 = .ok (.iastore, 1) := by decide +kernel
theorem dX6_isSame_102 : decode cX6_isSame 102 = .ok (.dup, 1) := by decide +kernel
theorem dX6_isSame_103 : decode cX6_isSame 103 = .ok (.bipush 8, 2) := by decide +kernel
theorem dX6_isSame_105 : decode cX6_isSame 105 = .ok (.aload 7, 2) := by decide +kernel
theorem dX6_isSame_107 : decode cX6_isSame 107 = .ok (.getfield 95, 3) := by decide +kernel
theorem dX6_isSame_110 : decode cX6_isSame 110 = .ok (.iastore, 1) := by decide +kernel
theorem dX6_isSame_111 : decode cX6_isSame 111 = .ok (.dup, 1) := by decide +kernel
theorem dX6_isSame_112 : decode cX6_isSame 112 = .ok (.bipush 9, 2) := by decide +kernel
theorem dX6_isSame_114 : decode cX6_isSame 114 = .ok (.aload 7, 2) := by decide +kernel
theorem dX6_isSame_116 : decode cX6_isSame 116 = .ok (.getfield 89, 3) := by decide +kernel
theorem dX6_isSame_119 : decode cX6_isSame 119 = .ok (.iastore, 1) := by decide +kernel
theorem dX6_isSame_120 : decode cX6_isSame 120 = .ok (.astore 8, 2) := by decide +kernel
theorem dX6_isSame_122 : decode cX6_isSame 122 = .ok (.iconst 0, 1) := by decide +kernel
theorem dX6_isSame_123 : decode cX6_isSame 123 = .ok (.istore 9, 2) := by decide +kernel
theorem dX6_isSame_125 : decode cX6_isSame 125 = .ok (.iload 9, 2) := by decide +kernel
theorem dX6_isSame_127 : decode cX6_isSame 127 = .ok (.bipush 10, 2) := by decide +kernel
theorem dX6_isSame_129 : decode cX6_isSame 129 = .ok (.if_icmp .ge 27, 3) := by decide +kernel
theorem dX6_isSame_132 : decode cX6_isSame 132 = .ok (.aload_n 1, 1) := by decide +kernel
theorem dX6_isSame_133 : decode cX6_isSame 133 = .ok (.iload 6, 2) := by decide +kernel
theorem dX6_isSame_135 : decode cX6_isSame 135 = .ok (.iload 9, 2) := by decide +kernel
theorem dX6_isSame_137 : decode cX6_isSame 137 = .ok (.invokevirtual 105, 3) := by decide +kernel
theorem dX6_isSame_140 : decode cX6_isSame 140 = .ok (.aload 8, 2) := by decide +kernel
theorem dX6_isSame_142 : decode cX6_isSame 142 = .ok (.iload 9, 2) := by decide +kernel
theorem dX6_isSame_144 : decode cX6_isSame 144 = .ok (.iaload, 1) := by decide +kernel
theorem dX6_isSame_145 : decode cX6_isSame 145 = .ok (.if_icmp .eq 5, 3) := by decide +kernel
theorem dX6_isSame_148 : decode cX6_isSame 148 = .ok (.iconst 0, 1) := by decide +kernel
theorem dX6_isSame_149 : decode cX6_isSame 149 = .ok (.ireturn, 1) := by decide +kernel
theorem dX6_isSame_150 : decode cX6_isSame 150 = .ok (.iinc 9 1, 3) := by decide +kernel
theorem dX6_isSame_153 : decode cX6_isSame 153 = .ok (.goto (-28), 3) := by decide +kernel
theorem dX6_isSame_156 : decode cX6_isSame 156 = .ok (.iconst 0, 1) := by decide +kernel
theorem dX6_isSame_157 : decode cX6_isSame 157 = .ok (.istore 9, 2) := by decide +kernel
theorem dX6_isSame_159 : decode cX6_isSame 159 = .ok (.iload 9, 2) := by decide +kernel
theorem dX6_isSame_161 : decode cX6_isSame 161 = .ok (.aload_n 0, 1) := by decide +kernel
theorem dX6_isSame_162 : decode cX6_isSame 162 = .ok (.getfield 16, 3) := by decide +kernel
theorem dX6_isSame_165 : decode cX6_isSame 165 = .ok (.arraylength, 1) := by decide +kernel
theorem dX6_isSame_166 : decode cX6_isSame 166 = .ok (.if_icmp .ge 43, 3) := by decide +kernel
theorem dX6_isSame_169 : decode cX6_isSame 169 = .ok (.aload_n 1, 1) := by decide +kernel
theorem dX6_isSame_170 : decode cX6_isSame 170 = .ok (.iload 6, 2) := by decide +kernel
theorem dX6_isSame_172 : decode cX6_isSame 172 = .ok (.iload 9, 2) := by decide +kernel
theorem dX6_isSame_174 : decode cX6_isSame 174 = .ok (.invokevirtual 110, 3) := by decide +kernel
theorem dX6_isSame_177 : decode cX6_isSame 177 = .ok (.aload_n 0, 1) := by decide +kernel
theorem dX6_isSame_178 : decode cX6_isSame 178 = .ok (.getfield 25, 3) := by decide +kernel
theorem dX6_isSame_181 : decode cX6_isSame 181 = .ok (.iload 6, 2) := by decide +kernel
theorem dX6_isSame_183 : decode cX6_isSame 183 = .ok (.aaload, 1) := by decide +kernel
theorem dX6_isSame_184 : decode cX6_isSame 184 = .ok (.iload 9, 2) := by decide +kernel
theorem dX6_isSame_186 : decode cX6_isSame 186 = .ok (.iaload, 1) := by decide +kernel
theorem dX6_isSame_187 : decode cX6_isSame 187 = .ok (.aload_n 0, 1) := by decide +kernel
theorem dX6_isSame_188 : decode cX6_isSame 188 = .ok (.getfield 25, 3) := by decide +kernel
theorem dX6_isSame_191 : decode cX6_isSame 191 = .ok (.iload 9, 2) := by decide +kernel
theorem dX6_isSame_193 : decode cX6_isSame 193 = .ok (.aaload, 1) := by decide +kernel
theorem dX6_isSame_194 : decode cX6_isSame 194 = .ok (.iload 6, 2) := by decide +kernel
theorem dX6_isSame_196 : decode cX6_isSame 196 = .ok (.iaload, 1) := by decide +kernel
theorem dX6_isSame_197 : decode cX6_isSame 197 = .ok (.isub, 1) := by decide +kernel
theorem dX6_isSame_198 : decode cX6_isSame 198 = .ok (.if_icmp .eq 5, 3) := by decide +kernel
theorem dX6_isSame_201 : decode cX6_isSame 201 = .ok (.iconst 0, 1) := by decide +kernel
theorem dX6_isSame_202 : decode cX6_isSame 202 = .ok (.ireturn, 1) := by decide +kernel
theorem dX6_isSame_203 : decode cX6_isSame 203 = .ok (.iinc 9 1, 3) := by decide +kernel
theorem dX6_isSame_206 : decode cX6_isSame 206 = .ok (.goto (-47), 3) := by decide +kernel
theorem dX6_isSame_209 : decode cX6_isSame 209 = .ok (.iload_n 2, 1) := by decide +kernel
theorem dX6_isSame_210 : decode cX6_isSame 210 = .ok (.aload 7, 2) := by decide +kernel
theorem dX6_isSame_212 : decode cX6_isSame 212 = .ok (.getfield 86, 3) := by decide +kernel
theorem dX6_isSame_215 : decode cX6_isSame 215 = .ok (.iadd, 1) := by decide +kernel
theorem dX6_isSame_216 : decode cX6_isSame 216 = .ok (.istore_n 2, 1) := by decide +kernel
theorem dX6_isSame_217 : decode cX6_isSame 217 = .ok (.iload_n 3, 1) := by decide +kernel
theorem dX6_isSame_218 : decode cX6_isSame 218 = .ok (.aload 7, 2) := by decide +kernel
theorem dX6_isSame_220 : decode cX6_isSame 220 = .ok (.getfield 95, 3) := by decide +kernel
theorem dX6_isSame_223 : decode cX6_isSame 223 = .ok (.iadd, 1) := by decide +kernel
theorem dX6_isSame_224 : decode cX6_isSame 224 = .ok (.istore_n 3, 1) := by decide +kernel
theorem dX6_isSame_225 : decode cX6_isSame 225 = .ok (.iload 4, 2) := by decide +kernel
theorem dX6_isSame_227 : decode cX6_isSame 227 = .ok (.aload 7, 2) := by decide +kernel
theorem dX6_isSame_229 : decode cX6_isSame 229 = .ok (.getfield 48, 3) := by decide +kernel
theorem dX6_isSame_232 : decode cX6_isSame 232 = .ok (.iadd, 1) := by decide +kernel
theorem dX6_isSame_233 : decode cX6_isSame 233 = .ok (.istore 4, 2) := by decide +kernel
theorem dX6_isSame_235 : decode cX6_isSame 235 = .ok (.iinc 6 1, 3) := by decide +kernel
theorem dX6_isSame_238 : decode cX6_isSame 238 = .ok (.goto (-225), 3) := by decide +kernel
theorem dX6_isSame_241 : decode cX6_isSame 241 = .ok (.iconst 0, 1) := by decide +kernel
theorem dX6_isSame_242 : decode cX6_isSame 242 = .ok (.istore 6, 2) := by decide +kernel
theorem dX6_isSame_244 : decode cX6_isSame 244 = .ok (.iload 6, 2) := by decide +kernel
theorem dX6_isSame_246 : decode cX6_isSame 246 = .ok (.aload_n 0, 1) := by decide +kernel
theorem dX6_isSame_247 : decode cX6_isSame 247 = .ok (.getfield 22, 3) := by decide +kernel
theorem dX6_isSame_250 : decode cX6_isSame 250 = .ok (.arraylength, 1) := by decide +kernel
theorem dX6_isSame_251 : decode cX6_isSame 251 = .ok (.if_icmp .ge 61, 3) := by decide +kernel
theorem dX6_isSame_254 : decode cX6_isSame 254 = .ok (.iconst 0, 1) := by decide +kernel
theorem dX6_isSame_255 : decode cX6_isSame 255 = .ok (.istore 7, 2) := by decide +kernel
theorem dX6_isSame_257 : decode cX6_isSame 257 = .ok (.iload 7, 2) := by decide +kernel
theorem dX6_isSame_259 : decode cX6_isSame 259 = .ok (.iconst 5, 1) := by decide +kernel
theorem dX6_isSame_260 : decode cX6_isSame 260 = .ok (.if_icmp .ge 32, 3) := by decide +kernel
theorem dX6_isSame_263 : decode cX6_isSame 263 = .ok (.aload_n 1, 1) := by decide +kernel
theorem dX6_isSame_264 : decode cX6_isSame 264 = .ok (.iload 6, 2) := by decide +kernel
theorem dX6_isSame_266 : decode cX6_isSame 266 = .ok (.iload 7, 2) := by decide +kernel
theorem dX6_isSame_268 : decode cX6_isSame 268 = .ok (.invokevirtual 113, 3) := by decide +kernel
theorem dX6_isSame_271 : decode cX6_isSame 271 = .ok (.aload_n 0, 1) := by decide +kernel
theorem dX6_isSame_272 : decode cX6_isSame 272 = .ok (.getfield 22, 3) := by decide +kernel
theorem dX6_isSame_275 : decode cX6_isSame 275 = .ok (.iload 6, 2) := by decide +kernel
theorem dX6_isSame_277 : decode cX6_isSame 277 = .ok (.aaload, 1) := by decide +kernel
theorem dX6_isSame_278 : decode cX6_isSame 278 = .ok (.iload 7, 2) := by decide +kernel
theorem dX6_isSame_280 : decode cX6_isSame 280 = .ok (.iaload, 1) := by decide +kernel
theorem dX6_isSame_281 : decode cX6_isSame 281 = .ok (.if_icmp .eq 5, 3) := by decide +kernel
theorem dX6_isSame_284 : decode cX6_isSame 284 = .ok (.iconst 0, 1) := by decide +kernel
theorem dX6_isSame_285 : decode cX6_isSame 285 = .ok (.ireturn, 1) := by decide +kernel
theorem dX6_isSame_286 : decode cX6_isSame 286 = .ok (.iinc 7 1, 3) := by decide +kernel
theorem dX6_isSame_289 : decode cX6_isSame 289 = .ok (.goto (-32), 3) := by decide +kernel
theorem dX6_isSame_292 : decode cX6_isSame 292 = .ok (.iload 5, 2) := by decide +kernel
theorem dX6_isSame_294 : decode cX6_isSame 294 = .ok (.aload_n 0, 1) := by decide +kernel
theorem dX6_isSame_295 : decode cX6_isSame 295 = .ok (.getfield 22, 3) := by decide +kernel
theorem dX6_isSame_298 : decode cX6_isSame 298 = .ok (.iload 6, 2) := by decide +kernel
theorem dX6_isSame_300 : decode cX6_isSame 300 = .ok (.aaload, 1) := by decide +kernel
theorem dX6_isSame_301 : decode cX6_isSame 301 = .ok (.iconst 3, 1) := by decide +kernel
theorem dX6_isSame_302 : decode cX6_isSame 302 = .ok (.iaload, 1) := by decide +kernel
theorem dX6_isSame_303 : decode cX6_isSame 303 = .ok (.iadd, 1) := by decide +kernel
theorem dX6_isSame_304 : decode cX6_isSame 304 = .ok (.istore 5, 2) := by decide +kernel
theorem dX6_isSame_306 : decode cX6_isSame 306 = .ok (.iinc 6 1, 3) := by decide +kernel
theorem dX6_isSame_309 : decode cX6_isSame 309 = .ok (.goto (-65), 3) := by decide +kernel
theorem dX6_isSame_312 : decode cX6_isSame 312 = .ok (.bipush 11, 2) := by decide +kernel
theorem dX6_isSame_314 : decode cX6_isSame 314 = .ok (.newarray .int, 2) := by decide +kernel
theorem dX6_isSame_316 : decode cX6_isSame 316 = .ok (.dup, 1) := by decide +kernel
theorem dX6_isSame_317 : decode cX6_isSame 317 = .ok (.iconst 0, 1) := by decide +kernel
theorem dX6_isSame_318 : decode cX6_isSame 318 = .ok (.aload_n 0, 1) := by decide +kernel
theorem dX6_isSame_319 : decode cX6_isSame 319 = .ok (.getfield 37, 3) := by decide +kernel
theorem dX6_isSame_322 : decode cX6_isSame 322 = .ok (.iastore, 1) := by decide +kernel
theorem dX6_isSame_323 : decode cX6_isSame 323 = .ok (.dup, 1) := by decide +kernel
theorem dX6_isSame_324 : decode cX6_isSame 324 = .ok (.iconst 1, 1) := by decide +kernel
theorem dX6_isSame_325 : decode cX6_isSame 325 = .ok (.aload_n 0, 1) := by decide +kernel
theorem dX6_isSame_326 : decode cX6_isSame 326 = .ok (.getfield 16, 3) := by decide +kernel
theorem dX6_isSame_329 : decode cX6_isSame 329 = .ok (.arraylength, 1) := by decide +kernel
theorem dX6_isSame_330 : decode cX6_isSame 330 = .ok (.iastore, 1) := by decide +kernel
theorem dX6_isSame_331 : decode cX6_isSame 331 = .ok (.dup, 1) := by decide +kernel
theorem dX6_isSame_332 : decode cX6_isSame 332 = .ok (.iconst 2, 1) := by decide +kernel
theorem dX6_isSame_333 : decode cX6_isSame 333 = .ok (.aload_n 0, 1) := by decide +kernel
theorem dX6_isSame_334 : decode cX6_isSame 334 = .ok (.getfield 22, 3) := by decide +kernel
theorem dX6_isSame_337 : decode cX6_isSame 337 = .ok (.arraylength, 1) := by decide +kernel
theorem dX6_isSame_338 : decode cX6_isSame 338 = .ok (.iastore, 1) := by decide +kernel
theorem dX6_isSame_339 : decode cX6_isSame 339 = .ok (.dup, 1) := by decide +kernel
theorem dX6_isSame_340 : decode cX6_isSame 340 = .ok (.iconst 3, 1) := by decide +kernel
theorem dX6_isSame_341 : decode cX6_isSame 341 = .ok (.aload_n 0, 1) := by decide +kernel
theorem dX6_isSame_342 : decode cX6_isSame 342 = .ok (.invokevirtual 116, 3) := by decide +kernel
theorem dX6_isSame_345 : decode cX6_isSame 345 = .ok (.iastore, 1) := by decide +kernel
theorem dX6_isSame_346 : decode cX6_isSame 346 = .ok (.dup, 1) := by decide +kernel
theorem dX6_isSame_347 : decode cX6_isSame 347 = .ok (.iconst 4, 1) := by decide +kernel
theorem dX6_isSame_348 : decode cX6_isSame 348 = .ok (.iload_n 2, 1) := by decide +kernel
theorem dX6_isSame_349 : decode cX6_isSame 349 = .ok (.iastore, 1) := by decide +kernel
theorem dX6_isSame_350 : decode cX6_isSame 350 = .ok (.dup, 1) := by decide +kernel
theorem dX6_isSame_351 : decode cX6_isSame 351 = .ok (.iconst 5, 1) := by decide +kernel
theorem dX6_isSame_352 : decode cX6_isSame 352 = .ok (.aload_n 0, 1) := by decide +kernel
theorem dX6_isSame_353 : decode cX6_isSame 353 = .ok (.getfield 83, 3) := by decide +kernel
theorem dX6_isSame_356 : decode cX6_isSame 356 = .ok (.iastore, 1) := by decide +kernel
theorem dX6_isSame_357 : decode cX6_isSame 357 = .ok (.dup, 1) := by decide +kernel
theorem dX6_isSame_358 : decode cX6_isSame 358 = .ok (.bipush 6, 2) := by decide +kernel
theorem dX6_isSame_360 : decode cX6_isSame 360 = .ok (.aload_n 0, 1) := by decide +kernel
theorem dX6_isSame_361 : decode cX6_isSame 361 = .ok (.getfield 41, 3) := by decide +kernel
theorem dX6_isSame_364 : decode cX6_isSame 364 = .ok (.iastore, 1) := by decide +kernel
theorem dX6_isSame_365 : decode cX6_isSame 365 = .ok (.dup, 1) := by decide +kernel
theorem dX6_isSame_366 : decode cX6_isSame 366 = .ok (.bipush 7, 2) := by decide +kernel
theorem dX6_isSame_368 : decode cX6_isSame 368 = .ok (.aload_n 0, 1) := by decide +kernel
theorem dX6_isSame_369 : decode cX6_isSame 369 = .ok (.getfield 92, 3) := by decide +kernel
theorem dX6_isSame_372 : decode cX6_isSame 372 = .ok (.iastore, 1) := by decide +kernel
theorem dX6_isSame_373 : decode cX6_isSame 373 = .ok (.dup, 1) := by decide +kernel
theorem dX6_isSame_374 : decode cX6_isSame 374 = .ok (.bipush 8, 2) := by decide +kernel
theorem dX6_isSame_376 : decode cX6_isSame 376 = .ok (.iload_n 3, 1) := by decide +kernel
theorem dX6_isSame_377 : decode cX6_isSame 377 = .ok (.iastore, 1) := by decide +kernel
theorem dX6_isSame_378 : decode cX6_isSame 378 = .ok (.dup, 1) := by decide +kernel
theorem dX6_isSame_379 : decode cX6_isSame 379 = .ok (.bipush 9, 2) := by decide +kernel
theorem dX6_isSame_381 : decode cX6_isSame 381 = .ok (.aload_n 0, 1) := by decide +kernel
theorem dX6_isSame_382 : decode cX6_isSame 382 = .ok (.getfield 119, 3) := by decide +kernel
theorem dX6_isSame_385 : decode cX6_isSame 385 = .ok (.iastore, 1) := by decide +kernel
theorem dX6_isSame_386 : decode cX6_isSame 386 = .ok (.dup, 1) := by decide +kernel
theorem dX6_isSame_387 : decode cX6_isSame 387 = .ok (.bipush 10, 2) := by decide +kernel
theorem dX6_isSame_389 : decode cX6_isSame 389 = .ok (.iload 5, 2) := by decide +kernel
theorem dX6_isSame_391 : decode cX6_isSame 391 = .ok (.iastore, 1) := by decide +kernel
theorem dX6_isSame_392 : decode cX6_isSame 392 = .ok (.astore 6, 2) := by decide +kernel
theorem dX6_isSame_394 : decode cX6_isSame 394 = .ok (.iconst 0, 1) := by decide +kernel
theorem dX6_isSame_395 : decode cX6_isSame 395 = .ok (.istore 7, 2) := by decide +kernel
theorem dX6_isSame_397 : decode cX6_isSame 397 = .ok (.iload 7, 2) := by decide +kernel
theorem dX6_isSame_399 : decode cX6_isSame 399 = .ok (.bipush 11, 2) := by decide +kernel
theorem dX6_isSame_401 : decode cX6_isSame 401 = .ok (.if_icmp .ge 25, 3) := by decide +kernel
theorem dX6_isSame_404 : decode cX6_isSame 404 = .ok (.aload_n 1, 1) := by decide +kernel
theorem dX6_isSame_405 : decode cX6_isSame 405 = .ok (.iload 7, 2) := by decide +kernel
theorem dX6_isSame_407 : decode cX6_isSame 407 = .ok (.invokevirtual 122, 3) := by decide +kernel
theorem dX6_isSame_410 : decode cX6_isSame 410 = .ok (.aload 6, 2) := by decide +kernel
theorem dX6_isSame_412 : decode cX6_isSame 412 = .ok (.iload 7, 2) := by decide +kernel
theorem dX6_isSame_414 : decode cX6_isSame 414 = .ok (.iaload, 1) := by decide +kernel
theorem dX6_isSame_415 : decode cX6_isSame 415 = .ok (.if_icmp .eq 5, 3) := by decide +kernel
theorem dX6_isSame_418 : decode cX6_isSame 418 = .ok (.iconst 0, 1) := by decide +kernel
theorem dX6_isSame_419 : decode cX6_isSame 419 = .ok (.ireturn, 1) := by decide +kernel
theorem dX6_isSame_420 : decode cX6_isSame 420 = .ok (.iinc 7 1, 3) := by decide +kernel
theorem dX6_isSame_423 : decode cX6_isSame 423 = .ok (.goto (-26), 3) := by decide +kernel
theorem dX6_isSame_426 : decode cX6_isSame 426 = .ok (.aload_n 1, 1) := by decide +kernel
theorem dX6_isSame_427 : decode cX6_isSame 427 = .ok (.invokevirtual 125, 3) := by decide +kernel
theorem dX6_isSame_430 : decode cX6_isSame 430 = .ok (.iload 4, 2) := by decide +kernel
theorem dX6_isSame_432 : decode cX6_isSame 432 = .ok (.ifCond .ne 7, 3) := by decide +kernel
theorem dX6_isSame_435 : decode cX6_isSame 435 = .ok (.dconst 0, 1) := by decide +kernel
theorem dX6_isSame_436 : decode cX6_isSame 436 = .ok (.goto 12, 3) := by decide +kernel
theorem dX6_isSame_439 : decode cX6_isSame 439 = .ok (.aload_n 0, 1) := by decide +kernel
theorem dX6_isSame_440 : decode cX6_isSame 440 = .ok (.invokevirtual 116, 3) := by decide +kernel
theorem dX6_isSame_443 : decode cX6_isSame 443 = .ok (.i2d, 1) := by decide +kernel
theorem dX6_isSame_444 : decode cX6_isSame 444 = .ok (.iload 4, 2) := by decide +kernel
theorem dX6_isSame_446 : decode cX6_isSame 446 = .ok (.i2d, 1) := by decide +kernel
theorem dX6_isSame_447 : decode cX6_isSame 447 = .ok (.ddiv, 1) := by decide +kernel
theorem dX6_isSame_448 : decode cX6_isSame 448 = .ok (.dcmp .l, 1) := by decide +kernel
theorem dX6_isSame_449 : decode cX6_isSame 449 = .ok (.ifCond .ne 7, 3) := by decide +kernel
theorem dX6_isSame_452 : decode cX6_isSame 452 = .ok (.iconst 1, 1) := by decide +kernel
theorem dX6_isSame_453 : decode cX6_isSame 453 = .ok (.goto 4, 3) := by decide +kernel
theorem dX6_isSame_456 : decode cX6_isSame 456 = .ok (.iconst 0, 1) := by decide +kernel
theorem dX6_isSame_457 : decode cX6_isSame 457 = .ok (.ireturn, 1) := by decide +kernel
end
section
theorem dL_below_0 : decode cL_below 0 = .ok (.iload_n 0, 1) := by decide +kernel
theorem dL_below_1 : decode cL_below 1 = .ok (.ldc 7, 2) := by decide +kernel
theorem dL_below_3 : decode cL_below 3 = .ok (.iand, 1) := by decide +kernel
theorem dL_below_4 : decode cL_below 4 = .ok (.iload_n 1, 1) := by decide +kernel
theorem dL_below_5 : decode cL_below 5 = .ok (.irem, 1) := by decide +kernel
theorem dL_below_6 : decode cL_below 6 = .ok (.ireturn, 1) := by decide +kernel
theorem dL_cell_0 : decode cL_cell 0 = .ok (.iload_n 1, 1) := by decide +kernel
theorem dL_cell_1 : decode cL_cell 1 = .ok (.aload_n 0, 1) := by decide +kernel
theorem dL_cell_2 : decode cL_cell 2 = .ok (.arraylength, 1) := by decide +kernel
theorem dL_cell_3 : decode cL_cell 3 = .ok (.if_icmp .ge 9, 3) := by decide +kernel
theorem dL_cell_6 : decode cL_cell 6 = .ok (.aload_n 0, 1) := by decide +kernel
theorem dL_cell_7 : decode cL_cell 7 = .ok (.iload_n 1, 1) := by decide +kernel
theorem dL_cell_8 : decode cL_cell 8 = .ok (.iaload, 1) := by decide +kernel
theorem dL_cell_9 : decode cL_cell 9 = .ok (.goto 9, 3) := by decide +kernel
theorem dL_cell_12 : decode cL_cell 12 = .ok (.ldc 8, 2) := by decide +kernel
theorem dL_cell_14 : decode cL_cell 14 = .ok (.iload_n 1, 1) := by decide +kernel
theorem dL_cell_15 : decode cL_cell 15 = .ok (.iconst 3, 1) := by decide +kernel
theorem dL_cell_16 : decode cL_cell 16 = .ok (.iadd, 1) := by decide +kernel
theorem dL_cell_17 : decode cL_cell 17 = .ok (.imul, 1) := by decide +kernel
theorem dL_cell_18 : decode cL_cell 18 = .ok (.ireturn, 1) := by decide +kernel
theorem dL_build_0 : decode cL_build 0 = .ok (.new 9, 3) := by decide +kernel
theorem dL_build_3 : decode cL_build 3 = .ok (.dup, 1) := by decide +kernel
theorem dL_build_4 : decode cL_build 4 = .ok (.invokespecial 11, 3) := by decide +kernel
theorem dL_build_7 : decode cL_build 7 = .ok (.astore_n 2, 1) := by decide +kernel
theorem dL_build_8 : decode cL_build 8 = .ok (.iconst 0, 1) := by decide +kernel
theorem dL_build_9 : decode cL_build 9 = .ok (.istore_n 3, 1) := by decide +kernel
theorem dL_build_10 : decode cL_build 10 = .ok (.iload_n 3, 1) := by decide +kernel
theorem dL_build_11 : decode cL_build 11 = .ok (.bipush 28, 2) := by decide +kernel
theorem dL_build_13 : decode cL_build 13 = .ok (.if_icmp .ge 105, 3) := by decide +kernel
theorem dL_build_16 : decode cL_build 16 = .ok (.aload_n 1, 1) := by decide +kernel
theorem dL_build_17 : decode cL_build 17 = .ok (.iconst 0, 1) := by decide +kernel
theorem dL_build_18 : decode cL_build 18 = .ok (.invokestatic 12, 3) := by decide +kernel
theorem dL_build_21 : decode cL_build 21 = .ok (.iload_n 3, 1) := by decide +kernel
theorem dL_build_22 : decode cL_build 22 = .ok (.ishr, 1) := by decide +kernel
theorem dL_build_23 : decode cL_build 23 = .ok (.iconst 3, 1) := by decide +kernel
theorem dL_build_24 : decode cL_build 24 = .ok (.invokestatic 18, 3) := by decide +kernel
theorem dL_build_27 : decode cL_build 27 = .ok (.ifCond .ne 21, 3) := by decide +kernel
theorem dL_build_30 : decode cL_build 30 = .ok (.aload_n 1, 1) := by decide +kernel
theorem dL_build_31 : decode cL_build 31 = .ok (.iconst 1, 1) := by decide +kernel
theorem dL_build_32 : decode cL_build 32 = .ok (.invokestatic 12, 3) := by decide +kernel
theorem dL_build_35 : decode cL_build 35 = .ok (.iload_n 3, 1) := by decide +kernel
theorem dL_build_36 : decode cL_build 36 = .ok (.bipush 20, 2) := by decide +kernel
theorem dL_build_38 : decode cL_build 38 = .ok (.irem, 1) := by decide +kernel
theorem dL_build_39 : decode cL_build 39 = .ok (.ishr, 1) := by decide +kernel
theorem dL_build_40 : decode cL_build 40 = .ok (.bipush 21, 2) := by decide +kernel
theorem dL_build_42 : decode cL_build 42 = .ok (.invokestatic 18, 3) := by decide +kernel
theorem dL_build_45 : decode cL_build 45 = .ok (.goto 4, 3) := by decide +kernel
theorem dL_build_48 : decode cL_build 48 = .ok (.iconst 0, 1) := by decide +kernel
theorem dL_build_49 : decode cL_build 49 = .ok (.istore 4, 2) := by decide +kernel
theorem dL_build_51 : decode cL_build 51 = .ok (.aload_n 1, 1) := by decide +kernel
theorem dL_build_52 : decode cL_build 52 = .ok (.iconst 2, 1) := by decide +kernel
theorem dL_build_53 : decode cL_build 53 = .ok (.invokestatic 12, 3) := by decide +kernel
theorem dL_build_56 : decode cL_build 56 = .ok (.iload_n 3, 1) := by decide +kernel
theorem dL_build_57 : decode cL_build 57 = .ok (.ishr, 1) := by decide +kernel
theorem dL_build_58 : decode cL_build 58 = .ok (.iconst 4, 1) := by decide +kernel
theorem dL_build_59 : decode cL_build 59 = .ok (.invokestatic 18, 3) := by decide +kernel
theorem dL_build_62 : decode cL_build 62 = .ok (.aload_n 1, 1) := by decide +kernel
theorem dL_build_63 : decode cL_build 63 = .ok (.iconst 0, 1) := by decide +kernel
theorem dL_build_64 : decode cL_build 64 = .ok (.invokestatic 12, 3) := by decide +kernel
theorem dL_build_67 : decode cL_build 67 = .ok (.iload_n 3, 1) := by decide +kernel
theorem dL_build_68 : decode cL_build 68 = .ok (.bipush 9, 2) := by decide +kernel
theorem dL_build_70 : decode cL_build 70 = .ok (.irem, 1) := by decide +kernel
theorem dL_build_71 : decode cL_build 71 = .ok (.ishr, 1) := by decide +kernel
theorem dL_build_72 : decode cL_build 72 = .ok (.iconst 2, 1) := by decide +kernel
theorem dL_build_73 : decode cL_build 73 = .ok (.invokestatic 18, 3) := by decide +kernel
theorem dL_build_76 : decode cL_build 76 = .ok (.imul, 1) := by decide +kernel
theorem dL_build_77 : decode cL_build 77 = .ok (.istore 5, 2) := by decide +kernel
theorem dL_build_79 : decode cL_build 79 = .ok (.aload_n 2, 1) := by decide +kernel
theorem dL_build_80 : decode cL_build 80 = .ok (.getfield 22, 3) := by decide +kernel
theorem dL_build_83 : decode cL_build 83 = .ok (.iload_n 3, 1) := by decide +kernel
theorem dL_build_84 : decode cL_build 84 = .ok (.iconst 2, 1) := by decide +kernel
theorem dL_build_85 : decode cL_build 85 = .ok (.newarray .int, 2) := by decide +kernel
theorem dL_build_87 : decode cL_build 87 = .ok (.dup, 1) := by decide +kernel
theorem dL_build_88 : decode cL_build 88 = .ok (.iconst 0, 1) := by decide +kernel
theorem dL_build_89 : decode cL_build 89 = .ok (.iload 4, 2) := by decide +kernel
theorem dL_build_91 : decode cL_build 91 = .ok (.iastore, 1) := by decide +kernel
theorem dL_build_92 : decode cL_build 92 = .ok (.dup, 1) := by decide +kernel
theorem dL_build_93 : decode cL_build 93 = .ok (.iconst 1, 1) := by decide +kernel
theorem dL_build_94 : decode cL_build 94 = .ok (.iload 5, 2) := by decide +kernel
theorem dL_build_96 : decode cL_build 96 = .ok (.iastore, 1) := by decide +kernel
theorem dL_build_97 : decode cL_build 97 = .ok (.aastore, 1) := by decide +kernel
theorem dL_build_98 : decode cL_build 98 = .ok (.aload_n 0, 1) := by decide +kernel
theorem dL_build_99 : decode cL_build 99 = .ok (.iload_n 3, 1) := by decide +kernel
theorem dL_build_100 : decode cL_build 100 = .ok (.iload 4, 2) := by decide +kernel
theorem dL_build_102 : decode cL_build 102 = .ok (.iload 5, 2) := by decide +kernel
theorem dL_build_104 : decode cL_build 104 = .ok (.invokevirtual 26, 3) := by decide +kernel
theorem dL_build_107 : decode cL_build 107 = .ok (.ifCond .eq 5, 3) := by decide +kernel
theorem dL_build_110 : decode cL_build 110 = .ok (.aconst_null, 1) := by decide +kernel
theorem dL_build_111 : decode cL_build 111 = .ok (.areturn, 1) := by decide +kernel
theorem dL_build_112 : decode cL_build 112 = .ok (.iinc 3 1, 3) := by decide +kernel
theorem dL_build_115 : decode cL_build 115 = .ok (.goto (-105), 3) := by decide +kernel
theorem dL_build_118 : decode cL_build 118 = .ok (.iconst 1, 1) := by decide +kernel
theorem dL_build_119 : decode cL_build 119 = .ok (.aload_n 1, 1) := by decide +kernel
theorem dL_build_120 : decode cL_build 120 = .ok (.iconst 3, 1) := by decide +kernel
theorem dL_build_121 : decode cL_build 121 = .ok (.invokestatic 12, 3) := by decide +kernel
theorem dL_build_124 : decode cL_build 124 = .ok (.bipush 8, 2) := by decide +kernel
theorem dL_build_126 : decode cL_build 126 = .ok (.invokestatic 18, 3) := by decide +kernel
theorem dL_build_129 : decode cL_build 129 = .ok (.iadd, 1) := by decide +kernel
theorem dL_build_130 : decode cL_build 130 = .ok (.istore_n 3, 1) := by decide +kernel
theorem dL_build_131 : decode cL_build 131 = .ok (.iconst 0, 1) := by decide +kernel
theorem dL_build_132 : decode cL_build 132 = .ok (.istore 4, 2) := by decide +kernel
theorem dL_build_134 : decode cL_build 134 = .ok (.iload 4, 2) := by decide +kernel
theorem dL_build_136 : decode cL_build 136 = .ok (.iload_n 3, 1) := by decide +kernel
theorem dL_build_137 : decode cL_build 137 = .ok (.if_icmp .ge 136, 3) := by decide +kernel
theorem dL_build_140 : decode cL_build 140 = .ok (.iconst 1, 1) := by decide +kernel
theorem dL_build_141 : decode cL_build 141 = .ok (.aload_n 1, 1) := by decide +kernel
theorem dL_build_142 : decode cL_build 142 = .ok (.iconst 4, 1) := by decide +kernel
theorem dL_build_143 : decode cL_build 143 = .ok (.invokestatic 12, 3) := by decide +kernel
theorem dL_build_146 : decode cL_build 146 = .ok (.iconst 2, 1) := by decide +kernel
theorem dL_build_147 : decode cL_build 147 = .ok (.iload 4, 2) := by decide +kernel
theorem dL_build_149 : decode cL_build 149 = .ok (.imul, 1) := by decide +kernel
theorem dL_build_150 : decode cL_build 150 = .ok (.ishr, 1) := by decide +kernel
theorem dL_build_151 : decode cL_build 151 = .ok (.bipush 30, 2) := by decide +kernel
theorem dL_build_153 : decode cL_build 153 = .ok (.invokestatic 18, 3) := by decide +kernel
theorem dL_build_156 : decode cL_build 156 = .ok (.iadd, 1) := by decide +kernel
theorem dL_build_157 : decode cL_build 157 = .ok (.istore 5, 2) := by decide +kernel
theorem dL_build_159 : decode cL_build 159 = .ok (.bipush 10, 2) := by decide +kernel
theorem dL_build_161 : decode cL_build 161 = .ok (.aload_n 1, 1) := by decide +kernel
theorem dL_build_162 : decode cL_build 162 = .ok (.iconst 5, 1) := by decide +kernel
theorem dL_build_163 : decode cL_build 163 = .ok (.invokestatic 12, 3) := by decide +kernel
theorem dL_build_166 : decode cL_build 166 = .ok (.iconst 2, 1) := by decide +kernel
theorem dL_build_167 : decode cL_build 167 = .ok (.iload 4, 2) := by decide +kernel
theorem dL_build_169 : decode cL_build 169 = .ok (.imul, 1) := by decide +kernel
theorem dL_build_170 : decode cL_build 170 = .ok (.ishr, 1) := by decide +kernel
theorem dL_build_171 : decode cL_build 171 = .ok (.aload_n 1, 1) := by decide +kernel
theorem dL_build_172 : decode cL_build 172 = .ok (.iconst 5, 1) := by decide +kernel
theorem dL_build_173 : decode cL_build 173 = .ok (.invokestatic 12, 3) := by decide +kernel
theorem dL_build_176 : decode cL_build 176 = .ok (.iload 4, 2) := by decide +kernel
theorem dL_build_178 : decode cL_build 178 = .ok (.ishr, 1) := by decide +kernel
theorem dL_build_179 : decode cL_build 179 = .ok (.iconst 2, 1) := by decide +kernel
theorem dL_build_180 : decode cL_build 180 = .ok (.invokestatic 18, 3) := by decide +kernel
theorem dL_build_183 : decode cL_build 183 = .ok (.ifCond .ne 9, 3) := by decide +kernel
theorem dL_build_186 : decode cL_build 186 = .ok (.sipush 891, 3) := by decide +kernel
theorem dL_build_189 : decode cL_build 189 = .ok (.goto 5, 3) := by decide +kernel
theorem dL_build_192 : decode cL_build 192 = .ok (.bipush 90, 2) := by decide +kernel
theorem dL_build_194 : decode cL_build 194 = .ok (.invokestatic 18, 3) := by decide +kernel
theorem dL_build_197 : decode cL_build 197 = .ok (.iadd, 1) := by decide +kernel
theorem dL_build_198 : decode cL_build 198 = .ok (.istore 6, 2) := by decide +kernel
theorem dL_build_200 : decode cL_build 200 = .ok (.aload_n 1, 1) := by decide +kernel
theorem dL_build_201 : decode cL_build 201 = .ok (.bipush 6, 2) := by decide +kernel
theorem dL_build_203 : decode cL_build 203 = .ok (.invokestatic 12, 3) := by decide +kernel
theorem dL_build_206 : decode cL_build 206 = .ok (.iconst 2, 1) := by decide +kernel
theorem dL_build_207 : decode cL_build 207 = .ok (.iload 4, 2) := by decide +kernel
theorem dL_build_209 : decode cL_build 209 = .ok (.imul, 1) := by decide +kernel
theorem dL_build_210 : decode cL_build 210 = .ok (.ishr, 1) := by decide +kernel
theorem dL_build_211 : decode cL_build 211 = .ok (.bipush 10, 2) := by decide +kernel
theorem dL_build_213 : decode cL_build 213 = .ok (.invokestatic 18, 3) := by decide +kernel
theorem dL_build_216 : decode cL_build 216 = .ok (.istore 7, 2) := by decide +kernel
theorem dL_build_218 : decode cL_build 218 = .ok (.aload_n 1, 1) := by decide +kernel
theorem dL_build_219 : decode cL_build 219 = .ok (.bipush 7, 2) := by decide +kernel
theorem dL_build_221 : decode cL_build 221 = .ok (.invokestatic 12, 3) := by decide +kernel
theorem dL_build_224 : decode cL_build 224 = .ok (.iconst 2, 1) := by decide +kernel
theorem dL_build_225 : decode cL_build 225 = .ok (.iload 4, 2) := by decide +kernel
theorem dL_build_227 : decode cL_build 227 = .ok (.imul, 1) := by decide +kernel
theorem dL_build_228 : decode cL_build 228 = .ok (.ishr, 1) := by decide +kernel
theorem dL_build_229 : decode cL_build 229 = .ok (.bipush 21, 2) := by decide +kernel
theorem dL_build_231 : decode cL_build 231 = .ok (.invokestatic 18, 3) := by decide +kernel
theorem dL_build_234 : decode cL_build 234 = .ok (.istore 8, 2) := by decide +kernel
theorem dL_build_236 : decode cL_build 236 = .ok (.aload_n 0, 1) := by decide +kernel
theorem dL_build_237 : decode cL_build 237 = .ok (.iload 5, 2) := by decide +kernel
theorem dL_build_239 : decode cL_build 239 = .ok (.iload 6, 2) := by decide +kernel
theorem dL_build_241 : decode cL_build 241 = .ok (.iload 7, 2) := by decide +kernel
theorem dL_build_243 : decode cL_build 243 = .ok (.iload 8, 2) := by decide +kernel
theorem dL_build_245 : decode cL_build 245 = .ok (.invokevirtual 32, 3) := by decide +kernel
theorem dL_build_248 : decode cL_build 248 = .ok (.iload 4, 2) := by decide +kernel
theorem dL_build_250 : decode cL_build 250 = .ok (.if_icmp .eq 5, 3) := by decide +kernel
theorem dL_build_253 : decode cL_build 253 = .ok (.aconst_null, 1) := by decide +kernel
theorem dL_build_254 : decode cL_build 254 = .ok (.areturn, 1) := by decide +kernel
theorem dL_build_255 : decode cL_build 255 = .ok (.aload_n 2, 1) := by decide +kernel
theorem dL_build_256 : decode cL_build 256 = .ok (.iload 5, 2) := by decide +kernel
theorem dL_build_258 : decode cL_build 258 = .ok (.iload 6, 2) := by decide +kernel
theorem dL_build_260 : decode cL_build 260 = .ok (.iload 7, 2) := by decide +kernel
theorem dL_build_262 : decode cL_build 262 = .ok (.iload 8, 2) := by decide +kernel
theorem dL_build_264 : decode cL_build 264 = .ok (.invokevirtual 36, 3) := by decide +kernel
theorem dL_build_267 : decode cL_build 267 = .ok (.iinc 4 1, 3) := by decide +kernel
theorem dL_build_270 : decode cL_build 270 = .ok (.goto (-136), 3) := by decide +kernel
theorem dL_build_273 : decode cL_build 273 = .ok (.iconst 0, 1) := by decide +kernel
theorem dL_build_274 : decode cL_build 274 = .ok (.istore 4, 2) := by decide +kernel
theorem dL_build_276 : decode cL_build 276 = .ok (.iload 4, 2) := by decide +kernel
theorem dL_build_278 : decode cL_build 278 = .ok (.iload_n 3, 1) := by decide +kernel
theorem dL_build_279 : decode cL_build 279 = .ok (.if_icmp .ge 87, 3) := by decide +kernel
theorem dL_build_282 : decode cL_build 282 = .ok (.aload_n 1, 1) := by decide +kernel
theorem dL_build_283 : decode cL_build 283 = .ok (.bipush 8, 2) := by decide +kernel
theorem dL_build_285 : decode cL_build 285 = .ok (.invokestatic 12, 3) := by decide +kernel
theorem dL_build_288 : decode cL_build 288 = .ok (.iconst 2, 1) := by decide +kernel
theorem dL_build_289 : decode cL_build 289 = .ok (.iload 4, 2) := by decide +kernel
theorem dL_build_291 : decode cL_build 291 = .ok (.imul, 1) := by decide +kernel
theorem dL_build_292 : decode cL_build 292 = .ok (.ishr, 1) := by decide +kernel
theorem dL_build_293 : decode cL_build 293 = .ok (.iload_n 3, 1) := by decide +kernel
theorem dL_build_294 : decode cL_build 294 = .ok (.iconst 1, 1) := by decide +kernel
theorem dL_build_295 : decode cL_build 295 = .ok (.iadd, 1) := by decide +kernel
theorem dL_build_296 : decode cL_build 296 = .ok (.invokestatic 18, 3) := by decide +kernel
theorem dL_build_299 : decode cL_build 299 = .ok (.iconst 1, 1) := by decide +kernel
theorem dL_build_300 : decode cL_build 300 = .ok (.isub, 1) := by decide +kernel
theorem dL_build_301 : decode cL_build 301 = .ok (.istore 5, 2) := by decide +kernel
theorem dL_build_303 : decode cL_build 303 = .ok (.iload 5, 2) := by decide +kernel
theorem dL_build_305 : decode cL_build 305 = .ok (.iload 4, 2) := by decide +kernel
theorem dL_build_307 : decode cL_build 307 = .ok (.if_icmp .eq 53, 3) := by decide +kernel
theorem dL_build_310 : decode cL_build 310 = .ok (.iload 5, 2) := by decide +kernel
theorem dL_build_312 : decode cL_build 312 = .ok (.ifCond .lt 17, 3) := by decide +kernel
theorem dL_build_315 : decode cL_build 315 = .ok (.aload_n 2, 1) := by decide +kernel
theorem dL_build_316 : decode cL_build 316 = .ok (.iload 5, 2) := by decide +kernel
theorem dL_build_318 : decode cL_build 318 = .ok (.iload 4, 2) := by decide +kernel
theorem dL_build_320 : decode cL_build 320 = .ok (.invokevirtual 39, 3) := by decide +kernel
theorem dL_build_323 : decode cL_build 323 = .ok (.ifCond .eq 6, 3) := by decide +kernel
theorem dL_build_326 : decode cL_build 326 = .ok (.goto 34, 3) := by decide +kernel
theorem dL_build_329 : decode cL_build 329 = .ok (.aload_n 2, 1) := by decide +kernel
theorem dL_build_330 : decode cL_build 330 = .ok (.getfield 43, 3) := by decide +kernel
theorem dL_build_333 : decode cL_build 333 = .ok (.iload 4, 2) := by decide +kernel
theorem dL_build_335 : decode cL_build 335 = .ok (.aaload, 1) := by decide +kernel
theorem dL_build_336 : decode cL_build 336 = .ok (.iload 5, 2) := by decide +kernel
theorem dL_build_338 : decode cL_build 338 = .ok (.putfield 47, 3) := by decide +kernel
theorem dL_build_341 : decode cL_build 341 = .ok (.aload_n 0, 1) := by decide +kernel
theorem dL_build_342 : decode cL_build 342 = .ok (.iload 4, 2) := by decide +kernel
theorem dL_build_344 : decode cL_build 344 = .ok (.iload 5, 2) := by decide +kernel
theorem dL_build_346 : decode cL_build 346 = .ok (.invokevirtual 53, 3) := by decide +kernel
theorem dL_build_349 : decode cL_build 349 = .ok (.aload_n 2, 1) := by decide +kernel
theorem dL_build_350 : decode cL_build 350 = .ok (.iload 5, 2) := by decide +kernel
theorem dL_build_352 : decode cL_build 352 = .ok (.invokevirtual 56, 3) := by decide +kernel
theorem dL_build_355 : decode cL_build 355 = .ok (.if_icmp .eq 5, 3) := by decide +kernel
theorem dL_build_358 : decode cL_build 358 = .ok (.aconst_null, 1) := by decide +kernel
theorem dL_build_359 : decode cL_build 359 = .ok (.areturn, 1) := by decide +kernel
theorem dL_build_360 : decode cL_build 360 = .ok (.iinc 4 1, 3) := by decide +kernel
theorem dL_build_363 : decode cL_build 363 = .ok (.goto (-87), 3) := by decide +kernel
theorem dL_build_366 : decode cL_build 366 = .ok (.iload_n 3, 1) := by decide +kernel
theorem dL_build_367 : decode cL_build 367 = .ok (.iconst 2, 1) := by decide +kernel
theorem dL_build_368 : decode cL_build 368 = .ok (.if_icmp .ge 7, 3) := by decide +kernel
theorem dL_build_371 : decode cL_build 371 = .ok (.iconst 0, 1) := by decide +kernel
theorem dL_build_372 : decode cL_build 372 = .ok (.goto 14, 3) := by decide +kernel
theorem dL_build_375 : decode cL_build 375 = .ok (.aload_n 1, 1) := by decide +kernel
theorem dL_build_376 : decode cL_build 376 = .ok (.bipush 9, 2) := by decide +kernel
theorem dL_build_378 : decode cL_build 378 = .ok (.invokestatic 12, 3) := by decide +kernel
theorem dL_build_381 : decode cL_build 381 = .ok (.bipush 9, 2) := by decide +kernel
theorem dL_build_383 : decode cL_build 383 = .ok (.invokestatic 18, 3) := by decide +kernel
theorem dL_build_386 : decode cL_build 386 = .ok (.istore 4, 2) := by decide +kernel
theorem dL_build_388 : decode cL_build 388 = .ok (.iconst 0, 1) := by decide +kernel
theorem dL_build_389 : decode cL_build 389 = .ok (.istore 5, 2) := by decide +kernel
theorem dL_build_391 : decode cL_build 391 = .ok (.iload 5, 2) := by decide +kernel
theorem dL_build_393 : decode cL_build 393 = .ok (.iload 4, 2) := by decide +kernel
theorem dL_build_395 : decode cL_build 395 = .ok (.if_icmp .ge 99, 3) := by decide +kernel
theorem dL_build_398 : decode cL_build 398 = .ok (.aload_n 1, 1) := by decide +kernel
theorem dL_build_399 : decode cL_build 399 = .ok (.bipush 10, 2) := by decide +kernel
theorem dL_build_401 : decode cL_build 401 = .ok (.invokestatic 12, 3) := by decide +kernel
theorem dL_build_404 : decode cL_build 404 = .ok (.iconst 2, 1) := by decide +kernel
theorem dL_build_405 : decode cL_build 405 = .ok (.iload 5, 2) := by decide +kernel
theorem dL_build_407 : decode cL_build 407 = .ok (.imul, 1) := by decide +kernel
theorem dL_build_408 : decode cL_build 408 = .ok (.ishr, 1) := by decide +kernel
theorem dL_build_409 : decode cL_build 409 = .ok (.iload_n 3, 1) := by decide +kernel
theorem dL_build_410 : decode cL_build 410 = .ok (.invokestatic 18, 3) := by decide +kernel
theorem dL_build_413 : decode cL_build 413 = .ok (.istore 6, 2) := by decide +kernel
theorem dL_build_415 : decode cL_build 415 = .ok (.iload 6, 2) := by decide +kernel
theorem dL_build_417 : decode cL_build 417 = .ok (.iconst 1, 1) := by decide +kernel
theorem dL_build_418 : decode cL_build 418 = .ok (.iadd, 1) := by decide +kernel
theorem dL_build_419 : decode cL_build 419 = .ok (.aload_n 1, 1) := by decide +kernel
theorem dL_build_420 : decode cL_build 420 = .ok (.bipush 11, 2) := by decide +kernel
theorem dL_build_422 : decode cL_build 422 = .ok (.invokestatic 12, 3) := by decide +kernel
theorem dL_build_425 : decode cL_build 425 = .ok (.iconst 2, 1) := by decide +kernel
theorem dL_build_426 : decode cL_build 426 = .ok (.iload 5, 2) := by decide +kernel
theorem dL_build_428 : decode cL_build 428 = .ok (.imul, 1) := by decide +kernel
theorem dL_build_429 : decode cL_build 429 = .ok (.ishr, 1) := by decide +kernel
theorem dL_build_430 : decode cL_build 430 = .ok (.iload_n 3, 1) := by decide +kernel
theorem dL_build_431 : decode cL_build 431 = .ok (.iconst 1, 1) := by decide +kernel
theorem dL_build_432 : decode cL_build 432 = .ok (.isub, 1) := by decide +kernel
theorem dL_build_433 : decode cL_build 433 = .ok (.invokestatic 18, 3) := by decide +kernel
theorem dL_build_436 : decode cL_build 436 = .ok (.iadd, 1) := by decide +kernel
theorem dL_build_437 : decode cL_build 437 = .ok (.iload_n 3, 1) := by decide +kernel
theorem dL_build_438 : decode cL_build 438 = .ok (.irem, 1) := by decide +kernel
theorem dL_build_439 : decode cL_build 439 = .ok (.istore 7, 2) := by decide +kernel
theorem dL_build_441 : decode cL_build 441 = .ok (.iconst 1, 1) := by decide +kernel
theorem dL_build_442 : decode cL_build 442 = .ok (.aload_n 1, 1) := by decide +kernel
theorem dL_build_443 : decode cL_build 443 = .ok (.bipush 12, 2) := by decide +kernel
theorem dL_build_445 : decode cL_build 445 = .ok (.invokestatic 12, 3) := by decide +kernel
theorem dL_build_448 : decode cL_build 448 = .ok (.iconst 2, 1) := by decide +kernel
theorem dL_build_449 : decode cL_build 449 = .ok (.iload 5, 2) := by decide +kernel
theorem dL_build_451 : decode cL_build 451 = .ok (.imul, 1) := by decide +kernel
theorem dL_build_452 : decode cL_build 452 = .ok (.ishr, 1) := by decide +kernel
theorem dL_build_453 : decode cL_build 453 = .ok (.bipush 50, 2) := by decide +kernel
theorem dL_build_455 : decode cL_build 455 = .ok (.invokestatic 18, 3) := by decide +kernel
theorem dL_build_458 : decode cL_build 458 = .ok (.iadd, 1) := by decide +kernel
theorem dL_build_459 : decode cL_build 459 = .ok (.istore 8, 2) := by decide +kernel
theorem dL_build_461 : decode cL_build 461 = .ok (.aload_n 0, 1) := by decide +kernel
theorem dL_build_462 : decode cL_build 462 = .ok (.iload 6, 2) := by decide +kernel
theorem dL_build_464 : decode cL_build 464 = .ok (.iload 7, 2) := by decide +kernel
theorem dL_build_466 : decode cL_build 466 = .ok (.iload 8, 2) := by decide +kernel
theorem dL_build_468 : decode cL_build 468 = .ok (.invokevirtual 60, 3) := by decide +kernel
theorem dL_build_471 : decode cL_build 471 = .ok (.iload 5, 2) := by decide +kernel
theorem dL_build_473 : decode cL_build 473 = .ok (.if_icmp .eq 5, 3) := by decide +kernel
theorem dL_build_476 : decode cL_build 476 = .ok (.aconst_null, 1) := by decide +kernel
theorem dL_build_477 : decode cL_build 477 = .ok (.areturn, 1) := by decide +kernel
theorem dL_build_478 : decode cL_build 478 = .ok (.aload_n 2, 1) := by decide +kernel
theorem dL_build_479 : decode cL_build 479 = .ok (.iload 6, 2) := by decide +kernel
theorem dL_build_481 : decode cL_build 481 = .ok (.iload 7, 2) := by decide +kernel
theorem dL_build_483 : decode cL_build 483 = .ok (.iload 8, 2) := by decide +kernel
theorem dL_build_485 : decode cL_build 485 = .ok (.invokevirtual 63, 3) := by decide +kernel
theorem dL_build_488 : decode cL_build 488 = .ok (.iinc 5 1, 3) := by decide +kernel
theorem dL_build_491 : decode cL_build 491 = .ok (.goto (-100), 3) := by decide +kernel
theorem dL_build_494 : decode cL_build 494 = .ok (.aload_n 2, 1) := by decide +kernel
theorem dL_build_495 : decode cL_build 495 = .ok (.areturn, 1) := by decide +kernel
theorem dL_act_0 : decode cL_act 0 = .ok (.aload_n 1, 1) := by decide +kernel
theorem dL_act_1 : decode cL_act 1 = .ok (.getfield 43, 3) := by decide +kernel
theorem dL_act_4 : decode cL_act 4 = .ok (.arraylength, 1) := by decide +kernel
theorem dL_act_5 : decode cL_act 5 = .ok (.istore_n 3, 1) := by decide +kernel
theorem dL_act_6 : decode cL_act 6 = .ok (.iload_n 2, 1) := by decide +kernel
theorem dL_act_7 : decode cL_act 7 = .ok (.iload_n 3, 1) := by decide +kernel
theorem dL_act_8 : decode cL_act 8 = .ok (.invokestatic 18, 3) := by decide +kernel
theorem dL_act_11 : decode cL_act 11 = .ok (.istore 4, 2) := by decide +kernel
theorem dL_act_13 : decode cL_act 13 = .ok (.aload_n 1, 1) := by decide +kernel
theorem dL_act_14 : decode cL_act 14 = .ok (.getfield 43, 3) := by decide +kernel
theorem dL_act_17 : decode cL_act 17 = .ok (.iload 4, 2) := by decide +kernel
theorem dL_act_19 : decode cL_act 19 = .ok (.aaload, 1) := by decide +kernel
theorem dL_act_20 : decode cL_act 20 = .ok (.astore 5, 2) := by decide +kernel
theorem dL_act_22 : decode cL_act 22 = .ok (.iload_n 2, 1) := by decide +kernel
theorem dL_act_23 : decode cL_act 23 = .ok (.bipush 7, 2) := by decide +kernel
theorem dL_act_25 : decode cL_act 25 = .ok (.ishr, 1) := by decide +kernel
theorem dL_act_26 : decode cL_act 26 = .ok (.bipush 7, 2) := by decide +kernel
theorem dL_act_28 : decode cL_act 28 = .ok (.invokestatic 18, 3) := by decide +kernel
theorem dL_act_31 : decode cL_act 31 = .ok (.tableswitch 320 0 5 #[37, 37, 86, 116, 210, 278], 37) := by decide +kernel
theorem dL_act_68 : decode cL_act 68 = .ok (.iconst 1, 1) := by decide +kernel
theorem dL_act_69 : decode cL_act 69 = .ok (.iload_n 2, 1) := by decide +kernel
theorem dL_act_70 : decode cL_act 70 = .ok (.iconst 3, 1) := by decide +kernel
theorem dL_act_71 : decode cL_act 71 = .ok (.ishr, 1) := by decide +kernel
theorem dL_act_72 : decode cL_act 72 = .ok (.sipush 500, 3) := by decide +kernel
theorem dL_act_75 : decode cL_act 75 = .ok (.invokestatic 18, 3) := by decide +kernel
theorem dL_act_78 : decode cL_act 78 = .ok (.iadd, 1) := by decide +kernel
theorem dL_act_79 : decode cL_act 79 = .ok (.istore 6, 2) := by decide +kernel
theorem dL_act_81 : decode cL_act 81 = .ok (.aload_n 1, 1) := by decide +kernel
theorem dL_act_82 : decode cL_act 82 = .ok (.dup, 1) := by decide +kernel
theorem dL_act_83 : decode cL_act 83 = .ok (.getfield 66, 3) := by decide +kernel
theorem dL_act_86 : decode cL_act 86 = .ok (.iload 6, 2) := by decide +kernel
theorem dL_act_88 : decode cL_act 88 = .ok (.iadd, 1) := by decide +kernel
theorem dL_act_89 : decode cL_act 89 = .ok (.putfield 66, 3) := by decide +kernel
theorem dL_act_92 : decode cL_act 92 = .ok (.aload_n 0, 1) := by decide +kernel
theorem dL_act_93 : decode cL_act 93 = .ok (.iload 4, 2) := by decide +kernel
theorem dL_act_95 : decode cL_act 95 = .ok (.iload 6, 2) := by decide +kernel
theorem dL_act_97 : decode cL_act 97 = .ok (.invokevirtual 69, 3) := by decide +kernel
theorem dL_act_100 : decode cL_act 100 = .ok (.aload_n 1, 1) := by decide +kernel
theorem dL_act_101 : decode cL_act 101 = .ok (.iload 4, 2) := by decide +kernel
theorem dL_act_103 : decode cL_act 103 = .ok (.iload 6, 2) := by decide +kernel
theorem dL_act_105 : decode cL_act 105 = .ok (.invokevirtual 72, 3) := by decide +kernel
theorem dL_act_108 : decode cL_act 108 = .ok (.if_icmp .ne 7, 3) := by decide +kernel
theorem dL_act_111 : decode cL_act 111 = .ok (.iconst 1, 1) := by decide +kernel
theorem dL_act_112 : decode cL_act 112 = .ok (.goto 4, 3) := by decide +kernel
theorem dL_act_115 : decode cL_act 115 = .ok (.iconst 0, 1) := by decide +kernel
theorem dL_act_116 : decode cL_act 116 = .ok (.ireturn, 1) := by decide +kernel
theorem dL_act_117 : decode cL_act 117 = .ok (.aload 5, 2) := by decide +kernel
theorem dL_act_119 : decode cL_act 119 = .ok (.getfield 75, 3) := by decide +kernel
theorem dL_act_122 : decode cL_act 122 = .ok (.istore 7, 2) := by decide +kernel
theorem dL_act_124 : decode cL_act 124 = .ok (.aload 5, 2) := by decide +kernel
theorem dL_act_126 : decode cL_act 126 = .ok (.iconst 0, 1) := by decide +kernel
theorem dL_act_127 : decode cL_act 127 = .ok (.putfield 75, 3) := by decide +kernel
theorem dL_act_130 : decode cL_act 130 = .ok (.aload_n 0, 1) := by decide +kernel
theorem dL_act_131 : decode cL_act 131 = .ok (.iload 4, 2) := by decide +kernel
theorem dL_act_133 : decode cL_act 133 = .ok (.invokevirtual 78, 3) := by decide +kernel
theorem dL_act_136 : decode cL_act 136 = .ok (.iload 7, 2) := by decide +kernel
theorem dL_act_138 : decode cL_act 138 = .ok (.if_icmp .ne 7, 3) := by decide +kernel
theorem dL_act_141 : decode cL_act 141 = .ok (.iconst 1, 1) := by decide +kernel
theorem dL_act_142 : decode cL_act 142 = .ok (.goto 4, 3) := by decide +kernel
theorem dL_act_145 : decode cL_act 145 = .ok (.iconst 0, 1) := by decide +kernel
theorem dL_act_146 : decode cL_act 146 = .ok (.ireturn, 1) := by decide +kernel
theorem dL_act_147 : decode cL_act 147 = .ok (.aload_n 1, 1) := by decide +kernel
theorem dL_act_148 : decode cL_act 148 = .ok (.getfield 81, 3) := by decide +kernel
theorem dL_act_151 : decode cL_act 151 = .ok (.arraylength, 1) := by decide +kernel
theorem dL_act_152 : decode cL_act 152 = .ok (.ifCond .ne 5, 3) := by decide +kernel
theorem dL_act_155 : decode cL_act 155 = .ok (.iconst 1, 1) := by decide +kernel
theorem dL_act_156 : decode cL_act 156 = .ok (.ireturn, 1) := by decide +kernel
theorem dL_act_157 : decode cL_act 157 = .ok (.iload_n 2, 1) := by decide +kernel
theorem dL_act_158 : decode cL_act 158 = .ok (.iconst 3, 1) := by decide +kernel
theorem dL_act_159 : decode cL_act 159 = .ok (.ishr, 1) := by decide +kernel
theorem dL_act_160 : decode cL_act 160 = .ok (.aload_n 1, 1) := by decide +kernel
theorem dL_act_161 : decode cL_act 161 = .ok (.getfield 81, 3) := by decide +kernel
theorem dL_act_164 : decode cL_act 164 = .ok (.arraylength, 1) := by decide +kernel
theorem dL_act_165 : decode cL_act 165 = .ok (.invokestatic 18, 3) := by decide +kernel
theorem dL_act_168 : decode cL_act 168 = .ok (.istore 8, 2) := by decide +kernel
theorem dL_act_170 : decode cL_act 170 = .ok (.aload_n 1, 1) := by decide +kernel
theorem dL_act_171 : decode cL_act 171 = .ok (.getfield 81, 3) := by decide +kernel
theorem dL_act_174 : decode cL_act 174 = .ok (.iload 8, 2) := by decide +kernel
theorem dL_act_176 : decode cL_act 176 = .ok (.aaload, 1) := by decide +kernel
theorem dL_act_177 : decode cL_act 177 = .ok (.iconst 3, 1) := by decide +kernel
theorem dL_act_178 : decode cL_act 178 = .ok (.iaload, 1) := by decide +kernel
theorem dL_act_179 : decode cL_act 179 = .ok (.iconst 1, 1) := by decide +kernel
theorem dL_act_180 : decode cL_act 180 = .ok (.if_icmp .ne 7, 3) := by decide +kernel
theorem dL_act_183 : decode cL_act 183 = .ok (.iconst 1, 1) := by decide +kernel
theorem dL_act_184 : decode cL_act 184 = .ok (.goto 4, 3) := by decide +kernel
theorem dL_act_187 : decode cL_act 187 = .ok (.iconst 0, 1) := by decide +kernel
theorem dL_act_188 : decode cL_act 188 = .ok (.istore 9, 2) := by decide +kernel
theorem dL_act_190 : decode cL_act 190 = .ok (.aload_n 1, 1) := by decide +kernel
theorem dL_act_191 : decode cL_act 191 = .ok (.getfield 81, 3) := by decide +kernel
theorem dL_act_194 : decode cL_act 194 = .ok (.iload 8, 2) := by decide +kernel
theorem dL_act_196 : decode cL_act 196 = .ok (.aaload, 1) := by decide +kernel
theorem dL_act_197 : decode cL_act 197 = .ok (.iconst 3, 1) := by decide +kernel
theorem dL_act_198 : decode cL_act 198 = .ok (.iload_n 2, 1) := by decide +kernel
theorem dL_act_199 : decode cL_act 199 = .ok (.iconst 5, 1) := by decide +kernel
theorem dL_act_200 : decode cL_act 200 = .ok (.ishr, 1) := by decide +kernel
theorem dL_act_201 : decode cL_act 201 = .ok (.iconst 2, 1) := by decide +kernel
theorem dL_act_202 : decode cL_act 202 = .ok (.invokestatic 18, 3) := by decide +kernel
theorem dL_act_205 : decode cL_act 205 = .ok (.iastore, 1) := by decide +kernel
theorem dL_act_206 : decode cL_act 206 = .ok (.aload_n 0, 1) := by decide +kernel
theorem dL_act_207 : decode cL_act 207 = .ok (.iload 8, 2) := by decide +kernel
theorem dL_act_209 : decode cL_act 209 = .ok (.aload_n 1, 1) := by decide +kernel
theorem dL_act_210 : decode cL_act 210 = .ok (.getfield 81, 3) := by decide +kernel
theorem dL_act_213 : decode cL_act 213 = .ok (.iload 8, 2) := by decide +kernel
theorem dL_act_215 : decode cL_act 215 = .ok (.aaload, 1) := by decide +kernel
theorem dL_act_216 : decode cL_act 216 = .ok (.iconst 3, 1) := by decide +kernel
theorem dL_act_217 : decode cL_act 217 = .ok (.iaload, 1) := by decide +kernel
theorem dL_act_218 : decode cL_act 218 = .ok (.iconst 1, 1) := by decide +kernel
theorem dL_act_219 : decode cL_act 219 = .ok (.if_icmp .ne 7, 3) := by decide +kernel
theorem dL_act_222 : decode cL_act 222 = .ok (.iconst 1, 1) := by decide +kernel
theorem dL_act_223 : decode cL_act 223 = .ok (.goto 4, 3) := by decide +kernel
theorem dL_act_226 : decode cL_act 226 = .ok (.iconst 0, 1) := by decide +kernel
theorem dL_act_227 : decode cL_act 227 = .ok (.invokevirtual 84, 3) := by decide +kernel
theorem dL_act_230 : decode cL_act 230 = .ok (.iload 9, 2) := by decide +kernel
theorem dL_act_232 : decode cL_act 232 = .ok (.if_icmp .ne 7, 3) := by decide +kernel
theorem dL_act_235 : decode cL_act 235 = .ok (.iconst 1, 1) := by decide +kernel
theorem dL_act_236 : decode cL_act 236 = .ok (.goto 4, 3) := by decide +kernel
theorem dL_act_239 : decode cL_act 239 = .ok (.iconst 0, 1) := by decide +kernel
theorem dL_act_240 : decode cL_act 240 = .ok (.ireturn, 1) := by decide +kernel
theorem dL_act_241 : decode cL_act 241 = .ok (.iload_n 2, 1) := by decide +kernel
theorem dL_act_242 : decode cL_act 242 = .ok (.iconst 3, 1) := by decide +kernel
theorem dL_act_243 : decode cL_act 243 = .ok (.ishr, 1) := by decide +kernel
theorem dL_act_244 : decode cL_act 244 = .ok (.iload_n 3, 1) := by decide +kernel
theorem dL_act_245 : decode cL_act 245 = .ok (.iconst 1, 1) := by decide +kernel
theorem dL_act_246 : decode cL_act 246 = .ok (.iadd, 1) := by decide +kernel
theorem dL_act_247 : decode cL_act 247 = .ok (.invokestatic 18, 3) := by decide +kernel
theorem dL_act_250 : decode cL_act 250 = .ok (.iconst 1, 1) := by decide +kernel
theorem dL_act_251 : decode cL_act 251 = .ok (.isub, 1) := by decide +kernel
theorem dL_act_252 : decode cL_act 252 = .ok (.istore 10, 2) := by decide +kernel
theorem dL_act_254 : decode cL_act 254 = .ok (.iload 10, 2) := by decide +kernel
theorem dL_act_256 : decode cL_act 256 = .ok (.iload 4, 2) := by decide +kernel
theorem dL_act_258 : decode cL_act 258 = .ok (.if_icmp .eq 19, 3) := by decide +kernel
theorem dL_act_261 : decode cL_act 261 = .ok (.iload 10, 2) := by decide +kernel
theorem dL_act_263 : decode cL_act 263 = .ok (.ifCond .lt 16, 3) := by decide +kernel
theorem dL_act_266 : decode cL_act 266 = .ok (.aload_n 1, 1) := by decide +kernel
theorem dL_act_267 : decode cL_act 267 = .ok (.iload 10, 2) := by decide +kernel
theorem dL_act_269 : decode cL_act 269 = .ok (.iload 4, 2) := by decide +kernel
theorem dL_act_271 : decode cL_act 271 = .ok (.invokevirtual 39, 3) := by decide +kernel
theorem dL_act_274 : decode cL_act 274 = .ok (.ifCond .eq 5, 3) := by decide +kernel
theorem dL_act_277 : decode cL_act 277 = .ok (.iconst 1, 1) := by decide +kernel
theorem dL_act_278 : decode cL_act 278 = .ok (.ireturn, 1) := by decide +kernel
theorem dL_act_279 : decode cL_act 279 = .ok (.aload 5, 2) := by decide +kernel
theorem dL_act_281 : decode cL_act 281 = .ok (.iload 10, 2) := by decide +kernel
theorem dL_act_283 : decode cL_act 283 = .ok (.putfield 47, 3) := by decide +kernel
theorem dL_act_286 : decode cL_act 286 = .ok (.aload_n 0, 1) := by decide +kernel
theorem dL_act_287 : decode cL_act 287 = .ok (.iload 4, 2) := by decide +kernel
theorem dL_act_289 : decode cL_act 289 = .ok (.iload 10, 2) := by decide +kernel
theorem dL_act_291 : decode cL_act 291 = .ok (.invokevirtual 53, 3) := by decide +kernel
theorem dL_act_294 : decode cL_act 294 = .ok (.aload_n 1, 1) := by decide +kernel
theorem dL_act_295 : decode cL_act 295 = .ok (.iload 10, 2) := by decide +kernel
theorem dL_act_297 : decode cL_act 297 = .ok (.invokevirtual 56, 3) := by decide +kernel
theorem dL_act_300 : decode cL_act 300 = .ok (.if_icmp .ne 7, 3) := by decide +kernel
theorem dL_act_303 : decode cL_act 303 = .ok (.iconst 1, 1) := by decide +kernel
theorem dL_act_304 : decode cL_act 304 = .ok (.goto 4, 3) := by decide +kernel
theorem dL_act_307 : decode cL_act 307 = .ok (.iconst 0, 1) := by decide +kernel
theorem dL_act_308 : decode cL_act 308 = .ok (.ireturn, 1) := by decide +kernel
theorem dL_act_309 : decode cL_act 309 = .ok (.aload 5, 2) := by decide +kernel
theorem dL_act_311 : decode cL_act 311 = .ok (.getfield 88, 3) := by decide +kernel
theorem dL_act_314 : decode cL_act 314 = .ok (.istore 11, 2) := by decide +kernel
theorem dL_act_316 : decode cL_act 316 = .ok (.aload 5, 2) := by decide +kernel
theorem dL_act_318 : decode cL_act 318 = .ok (.iload_n 2, 1) := by decide +kernel
theorem dL_act_319 : decode cL_act 319 = .ok (.iconst 4, 1) := by decide +kernel
theorem dL_act_320 : decode cL_act 320 = .ok (.ishr, 1) := by decide +kernel
theorem dL_act_321 : decode cL_act 321 = .ok (.bipush 10, 2) := by decide +kernel
theorem dL_act_323 : decode cL_act 323 = .ok (.invokestatic 18, 3) := by decide +kernel
theorem dL_act_326 : decode cL_act 326 = .ok (.putfield 88, 3) := by decide +kernel
theorem dL_act_329 : decode cL_act 329 = .ok (.aload_n 0, 1) := by decide +kernel
theorem dL_act_330 : decode cL_act 330 = .ok (.iload 4, 2) := by decide +kernel
theorem dL_act_332 : decode cL_act 332 = .ok (.aload 5, 2) := by decide +kernel
theorem dL_act_334 : decode cL_act 334 = .ok (.getfield 88, 3) := by decide +kernel
theorem dL_act_337 : decode cL_act 337 = .ok (.invokevirtual 91, 3) := by decide +kernel
theorem dL_act_340 : decode cL_act 340 = .ok (.iload 11, 2) := by decide +kernel
theorem dL_act_342 : decode cL_act 342 = .ok (.if_icmp .ne 7, 3) := by decide +kernel
theorem dL_act_345 : decode cL_act 345 = .ok (.iconst 1, 1) := by decide +kernel
theorem dL_act_346 : decode cL_act 346 = .ok (.goto 4, 3) := by decide +kernel
theorem dL_act_349 : decode cL_act 349 = .ok (.iconst 0, 1) := by decide +kernel
theorem dL_act_350 : decode cL_act 350 = .ok (.ireturn, 1) := by decide +kernel
theorem dL_act_351 : decode cL_act 351 = .ok (.iload_n 2, 1) := by decide +kernel
theorem dL_act_352 : decode cL_act 352 = .ok (.iconst 3, 1) := by decide +kernel
theorem dL_act_353 : decode cL_act 353 = .ok (.ishr, 1) := by decide +kernel
theorem dL_act_354 : decode cL_act 354 = .ok (.bipush 28, 2) := by decide +kernel
theorem dL_act_356 : decode cL_act 356 = .ok (.invokestatic 18, 3) := by decide +kernel
theorem dL_act_359 : decode cL_act 359 = .ok (.istore 12, 2) := by decide +kernel
theorem dL_act_361 : decode cL_act 361 = .ok (.aload_n 1, 1) := by decide +kernel
theorem dL_act_362 : decode cL_act 362 = .ok (.getfield 22, 3) := by decide +kernel
theorem dL_act_365 : decode cL_act 365 = .ok (.iload 12, 2) := by decide +kernel
theorem dL_act_367 : decode cL_act 367 = .ok (.aaload, 1) := by decide +kernel
theorem dL_act_368 : decode cL_act 368 = .ok (.astore 13, 2) := by decide +kernel
theorem dL_act_370 : decode cL_act 370 = .ok (.aload_n 1, 1) := by decide +kernel
theorem dL_act_371 : decode cL_act 371 = .ok (.getfield 22, 3) := by decide +kernel
theorem dL_act_374 : decode cL_act 374 = .ok (.iload 12, 2) := by decide +kernel
theorem dL_act_376 : decode cL_act 376 = .ok (.iconst 2, 1) := by decide +kernel
theorem dL_act_377 : decode cL_act 377 = .ok (.newarray .int, 2) := by decide +kernel
theorem dL_act_379 : decode cL_act 379 = .ok (.dup, 1) := by decide +kernel
theorem dL_act_380 : decode cL_act 380 = .ok (.iconst 0, 1) := by decide +kernel
theorem dL_act_381 : decode cL_act 381 = .ok (.iload_n 2, 1) := by decide +kernel
theorem dL_act_382 : decode cL_act 382 = .ok (.iconst 4, 1) := by decide +kernel
theorem dL_act_383 : decode cL_act 383 = .ok (.ishr, 1) := by decide +kernel
theorem dL_act_384 : decode cL_act 384 = .ok (.bipush 21, 2) := by decide +kernel
theorem dL_act_386 : decode cL_act 386 = .ok (.invokestatic 18, 3) := by decide +kernel
theorem dL_act_389 : decode cL_act 389 = .ok (.iastore, 1) := by decide +kernel
theorem dL_act_390 : decode cL_act 390 = .ok (.dup, 1) := by decide +kernel
theorem dL_act_391 : decode cL_act 391 = .ok (.iconst 1, 1) := by decide +kernel
theorem dL_act_392 : decode cL_act 392 = .ok (.iload_n 2, 1) := by decide +kernel
theorem dL_act_393 : decode cL_act 393 = .ok (.iconst 2, 1) := by decide +kernel
theorem dL_act_394 : decode cL_act 394 = .ok (.ishr, 1) := by decide +kernel
theorem dL_act_395 : decode cL_act 395 = .ok (.iconst 4, 1) := by decide +kernel
theorem dL_act_396 : decode cL_act 396 = .ok (.invokestatic 18, 3) := by decide +kernel
theorem dL_act_399 : decode cL_act 399 = .ok (.iastore, 1) := by decide +kernel
theorem dL_act_400 : decode cL_act 400 = .ok (.aastore, 1) := by decide +kernel
theorem dL_act_401 : decode cL_act 401 = .ok (.aload_n 0, 1) := by decide +kernel
theorem dL_act_402 : decode cL_act 402 = .ok (.iload 12, 2) := by decide +kernel
theorem dL_act_404 : decode cL_act 404 = .ok (.aload_n 1, 1) := by decide +kernel
theorem dL_act_405 : decode cL_act 405 = .ok (.getfield 22, 3) := by decide +kernel
theorem dL_act_408 : decode cL_act 408 = .ok (.iload 12, 2) := by decide +kernel
theorem dL_act_410 : decode cL_act 410 = .ok (.aaload, 1) := by decide +kernel
theorem dL_act_411 : decode cL_act 411 = .ok (.iconst 0, 1) := by decide +kernel
theorem dL_act_412 : decode cL_act 412 = .ok (.iaload, 1) := by decide +kernel
theorem dL_act_413 : decode cL_act 413 = .ok (.aload_n 1, 1) := by decide +kernel
theorem dL_act_414 : decode cL_act 414 = .ok (.getfield 22, 3) := by decide +kernel
theorem dL_act_417 : decode cL_act 417 = .ok (.iload 12, 2) := by decide +kernel
theorem dL_act_419 : decode cL_act 419 = .ok (.aaload, 1) := by decide +kernel
theorem dL_act_420 : decode cL_act 420 = .ok (.iconst 1, 1) := by decide +kernel
theorem dL_act_421 : decode cL_act 421 = .ok (.iaload, 1) := by decide +kernel
theorem dL_act_422 : decode cL_act 422 = .ok (.invokevirtual 26, 3) := by decide +kernel
theorem dL_act_425 : decode cL_act 425 = .ok (.bipush 10, 2) := by decide +kernel
theorem dL_act_427 : decode cL_act 427 = .ok (.aload 13, 2) := by decide +kernel
theorem dL_act_429 : decode cL_act 429 = .ok (.iconst 0, 1) := by decide +kernel
theorem dL_act_430 : decode cL_act 430 = .ok (.iaload, 1) := by decide +kernel
theorem dL_act_431 : decode cL_act 431 = .ok (.imul, 1) := by decide +kernel
theorem dL_act_432 : decode cL_act 432 = .ok (.aload 13, 2) := by decide +kernel
theorem dL_act_434 : decode cL_act 434 = .ok (.iconst 1, 1) := by decide +kernel
theorem dL_act_435 : decode cL_act 435 = .ok (.iaload, 1) := by decide +kernel
theorem dL_act_436 : decode cL_act 436 = .ok (.iadd, 1) := by decide +kernel
theorem dL_act_437 : decode cL_act 437 = .ok (.if_icmp .ne 7, 3) := by decide +kernel
theorem dL_act_440 : decode cL_act 440 = .ok (.iconst 1, 1) := by decide +kernel
theorem dL_act_441 : decode cL_act 441 = .ok (.goto 4, 3) := by decide +kernel
theorem dL_act_444 : decode cL_act 444 = .ok (.iconst 0, 1) := by decide +kernel
theorem dL_act_445 : decode cL_act 445 = .ok (.ireturn, 1) := by decide +kernel
theorem dL_law_0 : decode cL_law 0 = .ok (.new 27, 3) := by decide +kernel
theorem dL_law_3 : decode cL_law 3 = .ok (.dup, 1) := by decide +kernel
theorem dL_law_4 : decode cL_law 4 = .ok (.invokespecial 94, 3) := by decide +kernel
theorem dL_law_7 : decode cL_law 7 = .ok (.astore_n 1, 1) := by decide +kernel
theorem dL_law_8 : decode cL_law 8 = .ok (.aload_n 1, 1) := by decide +kernel
theorem dL_law_9 : decode cL_law 9 = .ok (.aload_n 0, 1) := by decide +kernel
theorem dL_law_10 : decode cL_law 10 = .ok (.invokestatic 95, 3) := by decide +kernel
theorem dL_law_13 : decode cL_law 13 = .ok (.astore_n 2, 1) := by decide +kernel
theorem dL_law_14 : decode cL_law 14 = .ok (.aload_n 2, 1) := by decide +kernel
theorem dL_law_15 : decode cL_law 15 = .ok (.ifnonnull 5, 3) := by decide +kernel
theorem dL_law_18 : decode cL_law 18 = .ok (.iconst 0, 1) := by decide +kernel
theorem dL_law_19 : decode cL_law 19 = .ok (.ireturn, 1) := by decide +kernel
theorem dL_law_20 : decode cL_law 20 = .ok (.aload_n 2, 1) := by decide +kernel
theorem dL_law_21 : decode cL_law 21 = .ok (.getfield 43, 3) := by decide +kernel
theorem dL_law_24 : decode cL_law 24 = .ok (.arraylength, 1) := by decide +kernel
theorem dL_law_25 : decode cL_law 25 = .ok (.istore_n 3, 1) := by decide +kernel
theorem dL_law_26 : decode cL_law 26 = .ok (.iconst 0, 1) := by decide +kernel
theorem dL_law_27 : decode cL_law 27 = .ok (.istore 4, 2) := by decide +kernel
theorem dL_law_29 : decode cL_law 29 = .ok (.iload 4, 2) := by decide +kernel
theorem dL_law_31 : decode cL_law 31 = .ok (.bipush 50, 2) := by decide +kernel
theorem dL_law_33 : decode cL_law 33 = .ok (.if_icmp .ge 1148, 3) := by decide +kernel
theorem dL_law_36 : decode cL_law 36 = .ok (.aload_n 0, 1) := by decide +kernel
theorem dL_law_37 : decode cL_law 37 = .ok (.iload 4, 2) := by decide +kernel
theorem dL_law_39 : decode cL_law 39 = .ok (.bipush 16, 2) := by decide +kernel
theorem dL_law_41 : decode cL_law 41 = .ok (.irem, 1) := by decide +kernel
theorem dL_law_42 : decode cL_law 42 = .ok (.invokestatic 12, 3) := by decide +kernel
theorem dL_law_45 : decode cL_law 45 = .ok (.iload 4, 2) := by decide +kernel
theorem dL_law_47 : decode cL_law 47 = .ok (.bipush 16, 2) := by decide +kernel
theorem dL_law_49 : decode cL_law 49 = .ok (.idiv, 1) := by decide +kernel
theorem dL_law_50 : decode cL_law 50 = .ok (.iconst 3, 1) := by decide +kernel
theorem dL_law_51 : decode cL_law 51 = .ok (.imul, 1) := by decide +kernel
theorem dL_law_52 : decode cL_law 52 = .ok (.ishr, 1) := by decide +kernel
theorem dL_law_53 : decode cL_law 53 = .ok (.bipush 67, 2) := by decide +kernel
theorem dL_law_55 : decode cL_law 55 = .ok (.iload 4, 2) := by decide +kernel
theorem dL_law_57 : decode cL_law 57 = .ok (.imul, 1) := by decide +kernel
theorem dL_law_58 : decode cL_law 58 = .ok (.iadd, 1) := by decide +kernel
theorem dL_law_59 : decode cL_law 59 = .ok (.istore 5, 2) := by decide +kernel
theorem dL_law_61 : decode cL_law 61 = .ok (.aload_n 1, 1) := by decide +kernel
theorem dL_law_62 : decode cL_law 62 = .ok (.aload_n 2, 1) := by decide +kernel
theorem dL_law_63 : decode cL_law 63 = .ok (.iload 5, 2) := by decide +kernel
theorem dL_law_65 : decode cL_law 65 = .ok (.invokestatic 98, 3) := by decide +kernel
theorem dL_law_68 : decode cL_law 68 = .ok (.ifCond .ne 5, 3) := by decide +kernel
theorem dL_law_71 : decode cL_law 71 = .ok (.iconst 0, 1) := by decide +kernel
theorem dL_law_72 : decode cL_law 72 = .ok (.ireturn, 1) := by decide +kernel
theorem dL_law_73 : decode cL_law 73 = .ok (.iload_n 3, 1) := by decide +kernel
theorem dL_law_74 : decode cL_law 74 = .ok (.bipush 10, 2) := by decide +kernel
theorem dL_law_76 : decode cL_law 76 = .ok (.multianewarray 102 2, 4) := by decide +kernel
theorem dL_law_80 : decode cL_law 80 = .ok (.astore 6, 2) := by decide +kernel
theorem dL_law_82 : decode cL_law 82 = .ok (.iconst 0, 1) := by decide +kernel
theorem dL_law_83 : decode cL_law 83 = .ok (.istore 7, 2) := by decide +kernel
theorem dL_law_85 : decode cL_law 85 = .ok (.iload 7, 2) := by decide +kernel
theorem dL_law_87 : decode cL_law 87 = .ok (.iload_n 3, 1) := by decide +kernel
theorem dL_law_88 : decode cL_law 88 = .ok (.if_icmp .ge 41, 3) := by decide +kernel
theorem dL_law_91 : decode cL_law 91 = .ok (.iconst 0, 1) := by decide +kernel
theorem dL_law_92 : decode cL_law 92 = .ok (.istore 8, 2) := by decide +kernel
theorem dL_law_94 : decode cL_law 94 = .ok (.iload 8, 2) := by decide +kernel
theorem dL_law_96 : decode cL_law 96 = .ok (.bipush 10, 2) := by decide +kernel
theorem dL_law_98 : decode cL_law 98 = .ok (.if_icmp .ge 25, 3) := by decide +kernel
theorem dL_law_101 : decode cL_law 101 = .ok (.aload 6, 2) := by decide +kernel
theorem dL_law_103 : decode cL_law 103 = .ok (.iload 7, 2) := by decide +kernel
theorem dL_law_105 : decode cL_law 105 = .ok (.aaload, 1) := by decide +kernel
theorem dL_law_106 : decode cL_law 106 = .ok (.iload 8, 2) := by decide +kernel
theorem dL_law_108 : decode cL_law 108 = .ok (.aload_n 1, 1) := by decide +kernel
theorem dL_law_109 : decode cL_law 109 = .ok (.iload 7, 2) := by decide +kernel
theorem dL_law_111 : decode cL_law 111 = .ok (.iload 8, 2) := by decide +kernel
theorem dL_law_113 : decode cL_law 113 = .ok (.invokevirtual 103, 3) := by decide +kernel
theorem dL_law_116 : decode cL_law 116 = .ok (.iastore, 1) := by decide +kernel
theorem dL_law_117 : decode cL_law 117 = .ok (.iinc 8 1, 3) := by decide +kernel
theorem dL_law_120 : decode cL_law 120 = .ok (.goto (-26), 3) := by decide +kernel
theorem dL_law_123 : decode cL_law 123 = .ok (.iinc 7 1, 3) := by decide +kernel
theorem dL_law_126 : decode cL_law 126 = .ok (.goto (-41), 3) := by decide +kernel
theorem dL_law_129 : decode cL_law 129 = .ok (.aload_n 2, 1) := by decide +kernel
theorem dL_law_130 : decode cL_law 130 = .ok (.getfield 81, 3) := by decide +kernel
theorem dL_law_133 : decode cL_law 133 = .ok (.arraylength, 1) := by decide +kernel
theorem dL_law_134 : decode cL_law 134 = .ok (.newarray .int, 2) := by decide +kernel
theorem dL_law_136 : decode cL_law 136 = .ok (.astore 7, 2) := by decide +kernel
theorem dL_law_138 : decode cL_law 138 = .ok (.iconst 0, 1) := by decide +kernel
theorem dL_law_139 : decode cL_law 139 = .ok (.istore 8, 2) := by decide +kernel
theorem dL_law_141 : decode cL_law 141 = .ok (.iload 8, 2) := by decide +kernel
theorem dL_law_143 : decode cL_law 143 = .ok (.aload 7, 2) := by decide +kernel
theorem dL_law_145 : decode cL_law 145 = .ok (.arraylength, 1) := by decide +kernel
theorem dL_law_146 : decode cL_law 146 = .ok (.if_icmp .ge 21, 3) := by decide +kernel
theorem dL_law_149 : decode cL_law 149 = .ok (.aload 7, 2) := by decide +kernel
theorem dL_law_151 : decode cL_law 151 = .ok (.iload 8, 2) := by decide +kernel
theorem dL_law_153 : decode cL_law 153 = .ok (.aload_n 1, 1) := by decide +kernel
theorem dL_law_154 : decode cL_law 154 = .ok (.iload 8, 2) := by decide +kernel
theorem dL_law_156 : decode cL_law 156 = .ok (.iconst 4, 1) := by decide +kernel
theorem dL_law_157 : decode cL_law 157 = .ok (.invokevirtual 106, 3) := by decide +kernel
theorem dL_law_160 : decode cL_law 160 = .ok (.iastore, 1) := by decide +kernel
theorem dL_law_161 : decode cL_law 161 = .ok (.iinc 8 1, 3) := by decide +kernel
theorem dL_law_164 : decode cL_law 164 = .ok (.goto (-23), 3) := by decide +kernel
theorem dL_law_167 : decode cL_law 167 = .ok (.iload_n 3, 1) := by decide +kernel
theorem dL_law_168 : decode cL_law 168 = .ok (.iload_n 3, 1) := by decide +kernel
theorem dL_law_169 : decode cL_law 169 = .ok (.multianewarray 102 2, 4) := by decide +kernel
theorem dL_law_173 : decode cL_law 173 = .ok (.astore 8, 2) := by decide +kernel
theorem dL_law_175 : decode cL_law 175 = .ok (.iconst 0, 1) := by decide +kernel
theorem dL_law_176 : decode cL_law 176 = .ok (.istore 9, 2) := by decide +kernel
theorem dL_law_178 : decode cL_law 178 = .ok (.iload 9, 2) := by decide +kernel
theorem dL_law_180 : decode cL_law 180 = .ok (.iload_n 3, 1) := by decide +kernel
theorem dL_law_181 : decode cL_law 181 = .ok (.if_icmp .ge 40, 3) := by decide +kernel
theorem dL_law_184 : decode cL_law 184 = .ok (.iconst 0, 1) := by decide +kernel
theorem dL_law_185 : decode cL_law 185 = .ok (.istore 10, 2) := by decide +kernel
theorem dL_law_187 : decode cL_law 187 = .ok (.iload 10, 2) := by decide +kernel
theorem dL_law_189 : decode cL_law 189 = .ok (.iload_n 3, 1) := by decide +kernel
theorem dL_law_190 : decode cL_law 190 = .ok (.if_icmp .ge 25, 3) := by decide +kernel
theorem dL_law_193 : decode cL_law 193 = .ok (.aload 8, 2) := by decide +kernel
theorem dL_law_195 : decode cL_law 195 = .ok (.iload 9, 2) := by decide +kernel
theorem dL_law_197 : decode cL_law 197 = .ok (.aaload, 1) := by decide +kernel
theorem dL_law_198 : decode cL_law 198 = .ok (.iload 10, 2) := by decide +kernel
theorem dL_law_200 : decode cL_law 200 = .ok (.aload_n 1, 1) := by decide +kernel
theorem dL_law_201 : decode cL_law 201 = .ok (.iload 9, 2) := by decide +kernel
theorem dL_law_203 : decode cL_law 203 = .ok (.iload 10, 2) := by decide +kernel
theorem dL_law_205 : decode cL_law 205 = .ok (.invokevirtual 109, 3) := by decide +kernel
theorem dL_law_208 : decode cL_law 208 = .ok (.iastore, 1) := by decide +kernel
theorem dL_law_209 : decode cL_law 209 = .ok (.iinc 10 1, 3) := by decide +kernel
theorem dL_law_212 : decode cL_law 212 = .ok (.goto (-25), 3) := by decide +kernel
theorem dL_law_215 : decode cL_law 215 = .ok (.iinc 9 1, 3) := by decide +kernel
theorem dL_law_218 : decode cL_law 218 = .ok (.goto (-40), 3) := by decide +kernel
theorem dL_law_221 : decode cL_law 221 = .ok (.iload 5, 2) := by decide +kernel
theorem dL_law_223 : decode cL_law 223 = .ok (.iload_n 3, 1) := by decide +kernel
theorem dL_law_224 : decode cL_law 224 = .ok (.invokestatic 18, 3) := by decide +kernel
theorem dL_law_227 : decode cL_law 227 = .ok (.istore 9, 2) := by decide +kernel
theorem dL_law_229 : decode cL_law 229 = .ok (.aload_n 1, 1) := by decide +kernel
theorem dL_law_230 : decode cL_law 230 = .ok (.iload 9, 2) := by decide +kernel
theorem dL_law_232 : decode cL_law 232 = .ok (.invokevirtual 112, 3) := by decide +kernel
theorem dL_law_235 : decode cL_law 235 = .ok (.istore 10, 2) := by decide +kernel
theorem dL_law_237 : decode cL_law 237 = .ok (.aload_n 1, 1) := by decide +kernel
theorem dL_law_238 : decode cL_law 238 = .ok (.iconst 1, 1) := by decide +kernel
theorem dL_law_239 : decode cL_law 239 = .ok (.iconst 0, 1) := by decide +kernel
theorem dL_law_240 : decode cL_law 240 = .ok (.invokevirtual 115, 3) := by decide +kernel
theorem dL_law_243 : decode cL_law 243 = .ok (.istore 11, 2) := by decide +kernel
theorem dL_law_245 : decode cL_law 245 = .ok (.aload_n 1, 1) := by decide +kernel
theorem dL_law_246 : decode cL_law 246 = .ok (.iconst 1, 1) := by decide +kernel
theorem dL_law_247 : decode cL_law 247 = .ok (.iconst 1, 1) := by decide +kernel
theorem dL_law_248 : decode cL_law 248 = .ok (.invokevirtual 115, 3) := by decide +kernel
theorem dL_law_251 : decode cL_law 251 = .ok (.istore 12, 2) := by decide +kernel
theorem dL_law_253 : decode cL_law 253 = .ok (.aload_n 1, 1) := by decide +kernel
theorem dL_law_254 : decode cL_law 254 = .ok (.iconst 1, 1) := by decide +kernel
theorem dL_law_255 : decode cL_law 255 = .ok (.iconst 2, 1) := by decide +kernel
theorem dL_law_256 : decode cL_law 256 = .ok (.invokevirtual 115, 3) := by decide +kernel
theorem dL_law_259 : decode cL_law 259 = .ok (.istore 13, 2) := by decide +kernel
theorem dL_law_261 : decode cL_law 261 = .ok (.bipush 11, 2) := by decide +kernel
theorem dL_law_263 : decode cL_law 263 = .ok (.newarray .int, 2) := by decide +kernel
theorem dL_law_265 : decode cL_law 265 = .ok (.astore 14, 2) := by decide +kernel
theorem dL_law_267 : decode cL_law 267 = .ok (.iconst 0, 1) := by decide +kernel
theorem dL_law_268 : decode cL_law 268 = .ok (.istore 15, 2) := by decide +kernel
theorem dL_law_270 : decode cL_law 270 = .ok (.iload 15, 2) := by decide +kernel
theorem dL_law_272 : decode cL_law 272 = .ok (.bipush 11, 2) := by decide +kernel
theorem dL_law_274 : decode cL_law 274 = .ok (.if_icmp .ge 20, 3) := by decide +kernel
theorem dL_law_277 : decode cL_law 277 = .ok (.aload 14, 2) := by decide +kernel
theorem dL_law_279 : decode cL_law 279 = .ok (.iload 15, 2) := by decide +kernel
theorem dL_law_281 : decode cL_law 281 = .ok (.aload_n 1, 1) := by decide +kernel
theorem dL_law_282 : decode cL_law 282 = .ok (.iload 15, 2) := by decide +kernel
theorem dL_law_284 : decode cL_law 284 = .ok (.invokevirtual 118, 3) := by decide +kernel
theorem dL_law_287 : decode cL_law 287 = .ok (.iastore, 1) := by decide +kernel
theorem dL_law_288 : decode cL_law 288 = .ok (.iinc 15 1, 3) := by decide +kernel
theorem dL_law_291 : decode cL_law 291 = .ok (.goto (-21), 3) := by decide +kernel
theorem dL_law_294 : decode cL_law 294 = .ok (.aload_n 2, 1) := by decide +kernel
theorem dL_law_295 : decode cL_law 295 = .ok (.getfield 22, 3) := by decide +kernel
theorem dL_law_298 : decode cL_law 298 = .ok (.aload_n 2, 1) := by decide +kernel
theorem dL_law_299 : decode cL_law 299 = .ok (.getfield 121, 3) := by decide +kernel
theorem dL_law_302 : decode cL_law 302 = .ok (.bipush 28, 2) := by decide +kernel
theorem dL_law_304 : decode cL_law 304 = .ok (.irem, 1) := by decide +kernel
theorem dL_law_305 : decode cL_law 305 = .ok (.aaload, 1) := by decide +kernel
theorem dL_law_306 : decode cL_law 306 = .ok (.astore 15, 2) := by decide +kernel
theorem dL_law_308 : decode cL_law 308 = .ok (.aload_n 1, 1) := by decide +kernel
theorem dL_law_309 : decode cL_law 309 = .ok (.iconst 1, 1) := by decide +kernel
theorem dL_law_310 : decode cL_law 310 = .ok (.invokevirtual 124, 3) := by decide +kernel
theorem dL_law_313 : decode cL_law 313 = .ok (.istore 16, 2) := by decide +kernel
theorem dL_law_315 : decode cL_law 315 = .ok (.aload_n 2, 1) := by decide +kernel
theorem dL_law_316 : decode cL_law 316 = .ok (.invokevirtual 127, 3) := by decide +kernel
theorem dL_law_319 : decode cL_law 319 = .ok (.pop, 1) := by decide +kernel
theorem dL_law_320 : decode cL_law 320 = .ok (.iload 16, 2) := by decide +kernel
theorem dL_law_322 : decode cL_law 322 = .ok (.iload 11, 2) := by decide +kernel
theorem dL_law_324 : decode cL_law 324 = .ok (.if_icmp .ne 85, 3) := by decide +kernel
theorem dL_law_327 : decode cL_law 327 = .ok (.aload_n 1, 1) := by decide +kernel
theorem dL_law_328 : decode cL_law 328 = .ok (.iconst 3, 1) := by decide +kernel
theorem dL_law_329 : decode cL_law 329 = .ok (.invokevirtual 118, 3) := by decide +kernel
theorem dL_law_332 : decode cL_law 332 = .ok (.iload 12, 2) := by decide +kernel
theorem dL_law_334 : decode cL_law 334 = .ok (.if_icmp .ne 75, 3) := by decide +kernel
theorem dL_law_337 : decode cL_law 337 = .ok (.aload_n 1, 1) := by decide +kernel
theorem dL_law_338 : decode cL_law 338 = .ok (.bipush 6, 2) := by decide +kernel
theorem dL_law_340 : decode cL_law 340 = .ok (.invokevirtual 118, 3) := by decide +kernel
theorem dL_law_343 : decode cL_law 343 = .ok (.aload 14, 2) := by decide +kernel
theorem dL_law_345 : decode cL_law 345 = .ok (.bipush 6, 2) := by decide +kernel
theorem dL_law_347 : decode cL_law 347 = .ok (.iaload, 1) := by decide +kernel
theorem dL_law_348 : decode cL_law 348 = .ok (.iload 13, 2) := by decide +kernel
theorem dL_law_350 : decode cL_law 350 = .ok (.iadd, 1) := by decide +kernel
theorem dL_law_351 : decode cL_law 351 = .ok (.if_icmp .ne 58, 3) := by decide +kernel
theorem dL_law_354 : decode cL_law 354 = .ok (.aload_n 1, 1) := by decide +kernel
theorem dL_law_355 : decode cL_law 355 = .ok (.iconst 0, 1) := by decide +kernel
theorem dL_law_356 : decode cL_law 356 = .ok (.invokevirtual 118, 3) := by decide +kernel
theorem dL_law_359 : decode cL_law 359 = .ok (.iload 4, 2) := by decide +kernel
theorem dL_law_361 : decode cL_law 361 = .ok (.iconst 1, 1) := by decide +kernel
theorem dL_law_362 : decode cL_law 362 = .ok (.iadd, 1) := by decide +kernel
theorem dL_law_363 : decode cL_law 363 = .ok (.if_icmp .ne 46, 3) := by decide +kernel
theorem dL_law_366 : decode cL_law 366 = .ok (.aload_n 1, 1) := by decide +kernel
theorem dL_law_367 : decode cL_law 367 = .ok (.iconst 4, 1) := by decide +kernel
theorem dL_law_368 : decode cL_law 368 = .ok (.invokevirtual 118, 3) := by decide +kernel
theorem dL_law_371 : decode cL_law 371 = .ok (.aload 14, 2) := by decide +kernel
theorem dL_law_373 : decode cL_law 373 = .ok (.iconst 4, 1) := by decide +kernel
theorem dL_law_374 : decode cL_law 374 = .ok (.iaload, 1) := by decide +kernel
theorem dL_law_375 : decode cL_law 375 = .ok (.iload 16, 2) := by decide +kernel
theorem dL_law_377 : decode cL_law 377 = .ok (.iadd, 1) := by decide +kernel
theorem dL_law_378 : decode cL_law 378 = .ok (.if_icmp .ne 31, 3) := by decide +kernel
theorem dL_law_381 : decode cL_law 381 = .ok (.aload_n 1, 1) := by decide +kernel
theorem dL_law_382 : decode cL_law 382 = .ok (.bipush 9, 2) := by decide +kernel
theorem dL_law_384 : decode cL_law 384 = .ok (.invokevirtual 118, 3) := by decide +kernel
theorem dL_law_387 : decode cL_law 387 = .ok (.aload 14, 2) := by decide +kernel
theorem dL_law_389 : decode cL_law 389 = .ok (.bipush 9, 2) := by decide +kernel
theorem dL_law_391 : decode cL_law 391 = .ok (.iaload, 1) := by decide +kernel
theorem dL_law_392 : decode cL_law 392 = .ok (.if_icmp .ne 17, 3) := by decide +kernel
theorem dL_law_395 : decode cL_law 395 = .ok (.aload_n 1, 1) := by decide +kernel
theorem dL_law_396 : decode cL_law 396 = .ok (.bipush 10, 2) := by decide +kernel
theorem dL_law_398 : decode cL_law 398 = .ok (.invokevirtual 118, 3) := by decide +kernel
theorem dL_law_401 : decode cL_law 401 = .ok (.aload 14, 2) := by decide +kernel
theorem dL_law_403 : decode cL_law 403 = .ok (.bipush 10, 2) := by decide +kernel
theorem dL_law_405 : decode cL_law 405 = .ok (.iaload, 1) := by decide +kernel
theorem dL_law_406 : decode cL_law 406 = .ok (.if_icmp .eq 5, 3) := by decide +kernel
theorem dL_law_409 : decode cL_law 409 = .ok (.iconst 0, 1) := by decide +kernel
theorem dL_law_410 : decode cL_law 410 = .ok (.ireturn, 1) := by decide +kernel
theorem dL_law_411 : decode cL_law 411 = .ok (.aload_n 1, 1) := by decide +kernel
theorem dL_law_412 : decode cL_law 412 = .ok (.iconst 5, 1) := by decide +kernel
theorem dL_law_413 : decode cL_law 413 = .ok (.invokevirtual 118, 3) := by decide +kernel
theorem dL_law_416 : decode cL_law 416 = .ok (.aload_n 1, 1) := by decide +kernel
theorem dL_law_417 : decode cL_law 417 = .ok (.bipush 9, 2) := by decide +kernel
theorem dL_law_419 : decode cL_law 419 = .ok (.invokevirtual 118, 3) := by decide +kernel
theorem dL_law_422 : decode cL_law 422 = .ok (.iadd, 1) := by decide +kernel
theorem dL_law_423 : decode cL_law 423 = .ok (.aload_n 1, 1) := by decide +kernel
theorem dL_law_424 : decode cL_law 424 = .ok (.iconst 3, 1) := by decide +kernel
theorem dL_law_425 : decode cL_law 425 = .ok (.invokevirtual 118, 3) := by decide +kernel
theorem dL_law_428 : decode cL_law 428 = .ok (.aload_n 1, 1) := by decide +kernel
theorem dL_law_429 : decode cL_law 429 = .ok (.bipush 6, 2) := by decide +kernel
theorem dL_law_431 : decode cL_law 431 = .ok (.invokevirtual 118, 3) := by decide +kernel
theorem dL_law_434 : decode cL_law 434 = .ok (.iadd, 1) := by decide +kernel
theorem dL_law_435 : decode cL_law 435 = .ok (.aload_n 1, 1) := by decide +kernel
theorem dL_law_436 : decode cL_law 436 = .ok (.bipush 7, 2) := by decide +kernel
theorem dL_law_438 : decode cL_law 438 = .ok (.invokevirtual 118, 3) := by decide +kernel
theorem dL_law_441 : decode cL_law 441 = .ok (.iadd, 1) := by decide +kernel
theorem dL_law_442 : decode cL_law 442 = .ok (.aload_n 1, 1) := by decide +kernel
theorem dL_law_443 : decode cL_law 443 = .ok (.bipush 8, 2) := by decide +kernel
theorem dL_law_445 : decode cL_law 445 = .ok (.invokevirtual 118, 3) := by decide +kernel
theorem dL_law_448 : decode cL_law 448 = .ok (.iadd, 1) := by decide +kernel
theorem dL_law_449 : decode cL_law 449 = .ok (.if_icmp .eq 5, 3) := by decide +kernel
theorem dL_law_452 : decode cL_law 452 = .ok (.iconst 0, 1) := by decide +kernel
theorem dL_law_453 : decode cL_law 453 = .ok (.ireturn, 1) := by decide +kernel
theorem dL_law_454 : decode cL_law 454 = .ok (.iload 10, 2) := by decide +kernel
theorem dL_law_456 : decode cL_law 456 = .ok (.iconst 1, 1) := by decide +kernel
theorem dL_law_457 : decode cL_law 457 = .ok (.if_icmp .le 24, 3) := by decide +kernel
theorem dL_law_460 : decode cL_law 460 = .ok (.iload 10, 2) := by decide +kernel
theorem dL_law_462 : decode cL_law 462 = .ok (.sipush 200, 3) := by decide +kernel
theorem dL_law_465 : decode cL_law 465 = .ok (.if_icmp .ge 16, 3) := by decide +kernel
theorem dL_law_468 : decode cL_law 468 = .ok (.aload_n 1, 1) := by decide +kernel
theorem dL_law_469 : decode cL_law 469 = .ok (.iload 9, 2) := by decide +kernel
theorem dL_law_471 : decode cL_law 471 = .ok (.invokevirtual 112, 3) := by decide +kernel
theorem dL_law_474 : decode cL_law 474 = .ok (.iload 10, 2) := by decide +kernel
theorem dL_law_476 : decode cL_law 476 = .ok (.iconst 1, 1) := by decide +kernel
theorem dL_law_477 : decode cL_law 477 = .ok (.isub, 1) := by decide +kernel
theorem dL_law_478 : decode cL_law 478 = .ok (.if_icmp .ne 53, 3) := by decide +kernel
theorem dL_law_481 : decode cL_law 481 = .ok (.iload 10, 2) := by decide +kernel
theorem dL_law_483 : decode cL_law 483 = .ok (.iconst 1, 1) := by decide +kernel
theorem dL_law_484 : decode cL_law 484 = .ok (.if_icmp .ne 22, 3) := by decide +kernel
theorem dL_law_487 : decode cL_law 487 = .ok (.aload_n 1, 1) := by decide +kernel
theorem dL_law_488 : decode cL_law 488 = .ok (.iload 9, 2) := by decide +kernel
theorem dL_law_490 : decode cL_law 490 = .ok (.bipush 7, 2) := by decide +kernel
theorem dL_law_492 : decode cL_law 492 = .ok (.invokevirtual 103, 3) := by decide +kernel
theorem dL_law_495 : decode cL_law 495 = .ok (.aload 6, 2) := by decide +kernel
theorem dL_law_497 : decode cL_law 497 = .ok (.iload 9, 2) := by decide +kernel
theorem dL_law_499 : decode cL_law 499 = .ok (.aaload, 1) := by decide +kernel
theorem dL_law_500 : decode cL_law 500 = .ok (.bipush 7, 2) := by decide +kernel
theorem dL_law_502 : decode cL_law 502 = .ok (.iaload, 1) := by decide +kernel
theorem dL_law_503 : decode cL_law 503 = .ok (.if_icmp .eq 28, 3) := by decide +kernel
theorem dL_law_506 : decode cL_law 506 = .ok (.iload 10, 2) := by decide +kernel
theorem dL_law_508 : decode cL_law 508 = .ok (.iconst 1, 1) := by decide +kernel
theorem dL_law_509 : decode cL_law 509 = .ok (.if_icmp .eq 24, 3) := by decide +kernel
theorem dL_law_512 : decode cL_law 512 = .ok (.aload_n 1, 1) := by decide +kernel
theorem dL_law_513 : decode cL_law 513 = .ok (.iload 9, 2) := by decide +kernel
theorem dL_law_515 : decode cL_law 515 = .ok (.bipush 7, 2) := by decide +kernel
theorem dL_law_517 : decode cL_law 517 = .ok (.invokevirtual 103, 3) := by decide +kernel
theorem dL_law_520 : decode cL_law 520 = .ok (.aload 6, 2) := by decide +kernel
theorem dL_law_522 : decode cL_law 522 = .ok (.iload 9, 2) := by decide +kernel
theorem dL_law_524 : decode cL_law 524 = .ok (.aaload, 1) := by decide +kernel
theorem dL_law_525 : decode cL_law 525 = .ok (.bipush 7, 2) := by decide +kernel
theorem dL_law_527 : decode cL_law 527 = .ok (.iaload, 1) := by decide +kernel
theorem dL_law_528 : decode cL_law 528 = .ok (.if_icmp .eq 5, 3) := by decide +kernel
theorem dL_law_531 : decode cL_law 531 = .ok (.iconst 0, 1) := by decide +kernel
theorem dL_law_532 : decode cL_law 532 = .ok (.ireturn, 1) := by decide +kernel
theorem dL_law_533 : decode cL_law 533 = .ok (.iconst 0, 1) := by decide +kernel
theorem dL_law_534 : decode cL_law 534 = .ok (.istore 17, 2) := by decide +kernel
theorem dL_law_536 : decode cL_law 536 = .ok (.iconst 0, 1) := by decide +kernel
theorem dL_law_537 : decode cL_law 537 = .ok (.istore 18, 2) := by decide +kernel
theorem dL_law_539 : decode cL_law 539 = .ok (.iconst 0, 1) := by decide +kernel
theorem dL_law_540 : decode cL_law 540 = .ok (.istore 19, 2) := by decide +kernel
theorem dL_law_542 : decode cL_law 542 = .ok (.iload 19, 2) := by decide +kernel
theorem dL_law_544 : decode cL_law 544 = .ok (.iload_n 3, 1) := by decide +kernel
theorem dL_law_545 : decode cL_law 545 = .ok (.if_icmp .ge 527, 3) := by decide +kernel
theorem dL_law_548 : decode cL_law 548 = .ok (.iload 17, 2) := by decide +kernel
theorem dL_law_550 : decode cL_law 550 = .ok (.aload 6, 2) := by decide +kernel
theorem dL_law_552 : decode cL_law 552 = .ok (.iload 19, 2) := by decide +kernel
theorem dL_law_554 : decode cL_law 554 = .ok (.aaload, 1) := by decide +kernel
theorem dL_law_555 : decode cL_law 555 = .ok (.iconst 0, 1) := by decide +kernel
theorem dL_law_556 : decode cL_law 556 = .ok (.iaload, 1) := by decide +kernel
theorem dL_law_557 : decode cL_law 557 = .ok (.aload 15, 2) := by decide +kernel
theorem dL_law_559 : decode cL_law 559 = .ok (.iconst 0, 1) := by decide +kernel
theorem dL_law_560 : decode cL_law 560 = .ok (.iaload, 1) := by decide +kernel
theorem dL_law_561 : decode cL_law 561 = .ok (.imul, 1) := by decide +kernel
theorem dL_law_562 : decode cL_law 562 = .ok (.bipush 10, 2) := by decide +kernel
theorem dL_law_564 : decode cL_law 564 = .ok (.aload 6, 2) := by decide +kernel
theorem dL_law_566 : decode cL_law 566 = .ok (.iload 19, 2) := by decide +kernel
theorem dL_law_568 : decode cL_law 568 = .ok (.aaload, 1) := by decide +kernel
theorem dL_law_569 : decode cL_law 569 = .ok (.iconst 5, 1) := by decide +kernel
theorem dL_law_570 : decode cL_law 570 = .ok (.iaload, 1) := by decide +kernel
theorem dL_law_571 : decode cL_law 571 = .ok (.isub, 1) := by decide +kernel
theorem dL_law_572 : decode cL_law 572 = .ok (.imul, 1) := by decide +kernel
theorem dL_law_573 : decode cL_law 573 = .ok (.bipush 10, 2) := by decide +kernel
theorem dL_law_575 : decode cL_law 575 = .ok (.idiv, 1) := by decide +kernel
theorem dL_law_576 : decode cL_law 576 = .ok (.iadd, 1) := by decide +kernel
theorem dL_law_577 : decode cL_law 577 = .ok (.istore 17, 2) := by decide +kernel
theorem dL_law_579 : decode cL_law 579 = .ok (.iload 18, 2) := by decide +kernel
theorem dL_law_581 : decode cL_law 581 = .ok (.iconst 3, 1) := by decide +kernel
theorem dL_law_582 : decode cL_law 582 = .ok (.aload 6, 2) := by decide +kernel
theorem dL_law_584 : decode cL_law 584 = .ok (.iload 19, 2) := by decide +kernel
theorem dL_law_586 : decode cL_law 586 = .ok (.aaload, 1) := by decide +kernel
theorem dL_law_587 : decode cL_law 587 = .ok (.iconst 3, 1) := by decide +kernel
theorem dL_law_588 : decode cL_law 588 = .ok (.iaload, 1) := by decide +kernel
theorem dL_law_589 : decode cL_law 589 = .ok (.imul, 1) := by decide +kernel
theorem dL_law_590 : decode cL_law 590 = .ok (.iadd, 1) := by decide +kernel
theorem dL_law_591 : decode cL_law 591 = .ok (.istore 18, 2) := by decide +kernel
theorem dL_law_593 : decode cL_law 593 = .ok (.aload_n 1, 1) := by decide +kernel
theorem dL_law_594 : decode cL_law 594 = .ok (.iload 19, 2) := by decide +kernel
theorem dL_law_596 : decode cL_law 596 = .ok (.iconst 2, 1) := by decide +kernel
theorem dL_law_597 : decode cL_law 597 = .ok (.invokevirtual 103, 3) := by decide +kernel
theorem dL_law_600 : decode cL_law 600 = .ok (.istore 20, 2) := by decide +kernel
theorem dL_law_602 : decode cL_law 602 = .ok (.aload_n 1, 1) := by decide +kernel
theorem dL_law_603 : decode cL_law 603 = .ok (.iload 19, 2) := by decide +kernel
theorem dL_law_605 : decode cL_law 605 = .ok (.bipush 7, 2) := by decide +kernel
theorem dL_law_607 : decode cL_law 607 = .ok (.invokevirtual 103, 3) := by decide +kernel
theorem dL_law_610 : decode cL_law 610 = .ok (.aload 6, 2) := by decide +kernel
theorem dL_law_612 : decode cL_law 612 = .ok (.iload 19, 2) := by decide +kernel
theorem dL_law_614 : decode cL_law 614 = .ok (.aaload, 1) := by decide +kernel
theorem dL_law_615 : decode cL_law 615 = .ok (.bipush 7, 2) := by decide +kernel
theorem dL_law_617 : decode cL_law 617 = .ok (.iaload, 1) := by decide +kernel
theorem dL_law_618 : decode cL_law 618 = .ok (.isub, 1) := by decide +kernel
theorem dL_law_619 : decode cL_law 619 = .ok (.istore 21, 2) := by decide +kernel
theorem dL_law_621 : decode cL_law 621 = .ok (.aload_n 1, 1) := by decide +kernel
theorem dL_law_622 : decode cL_law 622 = .ok (.iload 19, 2) := by decide +kernel
theorem dL_law_624 : decode cL_law 624 = .ok (.bipush 8, 2) := by decide +kernel
theorem dL_law_626 : decode cL_law 626 = .ok (.invokevirtual 103, 3) := by decide +kernel
theorem dL_law_629 : decode cL_law 629 = .ok (.aload 6, 2) := by decide +kernel
theorem dL_law_631 : decode cL_law 631 = .ok (.iload 19, 2) := by decide +kernel
theorem dL_law_633 : decode cL_law 633 = .ok (.aaload, 1) := by decide +kernel
theorem dL_law_634 : decode cL_law 634 = .ok (.bipush 8, 2) := by decide +kernel
theorem dL_law_636 : decode cL_law 636 = .ok (.iaload, 1) := by decide +kernel
theorem dL_law_637 : decode cL_law 637 = .ok (.isub, 1) := by decide +kernel
theorem dL_law_638 : decode cL_law 638 = .ok (.istore 22, 2) := by decide +kernel
theorem dL_law_640 : decode cL_law 640 = .ok (.iload 20, 2) := by decide +kernel
theorem dL_law_642 : decode cL_law 642 = .ok (.ifCond .lt 61, 3) := by decide +kernel
theorem dL_law_645 : decode cL_law 645 = .ok (.iload 20, 2) := by decide +kernel
theorem dL_law_647 : decode cL_law 647 = .ok (.aload 6, 2) := by decide +kernel
theorem dL_law_649 : decode cL_law 649 = .ok (.iload 19, 2) := by decide +kernel
theorem dL_law_651 : decode cL_law 651 = .ok (.aaload, 1) := by decide +kernel
theorem dL_law_652 : decode cL_law 652 = .ok (.iconst 1, 1) := by decide +kernel
theorem dL_law_653 : decode cL_law 653 = .ok (.iaload, 1) := by decide +kernel
theorem dL_law_654 : decode cL_law 654 = .ok (.if_icmp .gt 49, 3) := by decide +kernel
theorem dL_law_657 : decode cL_law 657 = .ok (.iload 21, 2) := by decide +kernel
theorem dL_law_659 : decode cL_law 659 = .ok (.ifCond .lt 44, 3) := by decide +kernel
theorem dL_law_662 : decode cL_law 662 = .ok (.iload 21, 2) := by decide +kernel
theorem dL_law_664 : decode cL_law 664 = .ok (.iconst 3, 1) := by decide +kernel
theorem dL_law_665 : decode cL_law 665 = .ok (.aload 6, 2) := by decide +kernel
theorem dL_law_667 : decode cL_law 667 = .ok (.iload 19, 2) := by decide +kernel
theorem dL_law_669 : decode cL_law 669 = .ok (.aaload, 1) := by decide +kernel
theorem dL_law_670 : decode cL_law 670 = .ok (.iconst 3, 1) := by decide +kernel
theorem dL_law_671 : decode cL_law 671 = .ok (.iaload, 1) := by decide +kernel
theorem dL_law_672 : decode cL_law 672 = .ok (.imul, 1) := by decide +kernel
theorem dL_law_673 : decode cL_law 673 = .ok (.if_icmp .gt 30, 3) := by decide +kernel
theorem dL_law_676 : decode cL_law 676 = .ok (.iload 22, 2) := by decide +kernel
theorem dL_law_678 : decode cL_law 678 = .ok (.ifCond .lt 25, 3) := by decide +kernel
theorem dL_law_681 : decode cL_law 681 = .ok (.iload 22, 2) := by decide +kernel
theorem dL_law_683 : decode cL_law 683 = .ok (.aload 6, 2) := by decide +kernel
theorem dL_law_685 : decode cL_law 685 = .ok (.iload 19, 2) := by decide +kernel
theorem dL_law_687 : decode cL_law 687 = .ok (.aaload, 1) := by decide +kernel
theorem dL_law_688 : decode cL_law 688 = .ok (.iconst 4, 1) := by decide +kernel
theorem dL_law_689 : decode cL_law 689 = .ok (.iaload, 1) := by decide +kernel
theorem dL_law_690 : decode cL_law 690 = .ok (.if_icmp .gt 13, 3) := by decide +kernel
theorem dL_law_693 : decode cL_law 693 = .ok (.iload 21, 2) := by decide +kernel
theorem dL_law_695 : decode cL_law 695 = .ok (.ifCond .le 10, 3) := by decide +kernel
theorem dL_law_698 : decode cL_law 698 = .ok (.iload 22, 2) := by decide +kernel
theorem dL_law_700 : decode cL_law 700 = .ok (.ifCond .le 5, 3) := by decide +kernel
theorem dL_law_703 : decode cL_law 703 = .ok (.iconst 0, 1) := by decide +kernel
theorem dL_law_704 : decode cL_law 704 = .ok (.ireturn, 1) := by decide +kernel
theorem dL_law_705 : decode cL_law 705 = .ok (.aload_n 1, 1) := by decide +kernel
theorem dL_law_706 : decode cL_law 706 = .ok (.iload 19, 2) := by decide +kernel
theorem dL_law_708 : decode cL_law 708 = .ok (.bipush 9, 2) := by decide +kernel
theorem dL_law_710 : decode cL_law 710 = .ok (.invokevirtual 103, 3) := by decide +kernel
theorem dL_law_713 : decode cL_law 713 = .ok (.aload 6, 2) := by decide +kernel
theorem dL_law_715 : decode cL_law 715 = .ok (.iload 19, 2) := by decide +kernel
theorem dL_law_717 : decode cL_law 717 = .ok (.aaload, 1) := by decide +kernel
theorem dL_law_718 : decode cL_law 718 = .ok (.bipush 9, 2) := by decide +kernel
theorem dL_law_720 : decode cL_law 720 = .ok (.iaload, 1) := by decide +kernel
theorem dL_law_721 : decode cL_law 721 = .ok (.iload 21, 2) := by decide +kernel
theorem dL_law_723 : decode cL_law 723 = .ok (.ifCond .le 7, 3) := by decide +kernel
theorem dL_law_726 : decode cL_law 726 = .ok (.iconst 1, 1) := by decide +kernel
theorem dL_law_727 : decode cL_law 727 = .ok (.goto 4, 3) := by decide +kernel
theorem dL_law_730 : decode cL_law 730 = .ok (.iconst 0, 1) := by decide +kernel
theorem dL_law_731 : decode cL_law 731 = .ok (.iadd, 1) := by decide +kernel
theorem dL_law_732 : decode cL_law 732 = .ok (.if_icmp .ne 66, 3) := by decide +kernel
theorem dL_law_735 : decode cL_law 735 = .ok (.aload_n 1, 1) := by decide +kernel
theorem dL_law_736 : decode cL_law 736 = .ok (.iload 19, 2) := by decide +kernel
theorem dL_law_738 : decode cL_law 738 = .ok (.iconst 5, 1) := by decide +kernel
theorem dL_law_739 : decode cL_law 739 = .ok (.invokevirtual 103, 3) := by decide +kernel
theorem dL_law_742 : decode cL_law 742 = .ok (.bipush 10, 2) := by decide +kernel
theorem dL_law_744 : decode cL_law 744 = .ok (.aload 6, 2) := by decide +kernel
theorem dL_law_746 : decode cL_law 746 = .ok (.iload 19, 2) := by decide +kernel
theorem dL_law_748 : decode cL_law 748 = .ok (.aaload, 1) := by decide +kernel
theorem dL_law_749 : decode cL_law 749 = .ok (.iconst 5, 1) := by decide +kernel
theorem dL_law_750 : decode cL_law 750 = .ok (.iaload, 1) := by decide +kernel
theorem dL_law_751 : decode cL_law 751 = .ok (.aload 15, 2) := by decide +kernel
theorem dL_law_753 : decode cL_law 753 = .ok (.iconst 1, 1) := by decide +kernel
theorem dL_law_754 : decode cL_law 754 = .ok (.iaload, 1) := by decide +kernel
theorem dL_law_755 : decode cL_law 755 = .ok (.iadd, 1) := by decide +kernel
theorem dL_law_756 : decode cL_law 756 = .ok (.invokestatic 130, 3) := by decide +kernel
theorem dL_law_759 : decode cL_law 759 = .ok (.if_icmp .ne 39, 3) := by decide +kernel
theorem dL_law_762 : decode cL_law 762 = .ok (.aload_n 1, 1) := by decide +kernel
theorem dL_law_763 : decode cL_law 763 = .ok (.iload 19, 2) := by decide +kernel
theorem dL_law_765 : decode cL_law 765 = .ok (.bipush 6, 2) := by decide +kernel
theorem dL_law_767 : decode cL_law 767 = .ok (.invokevirtual 103, 3) := by decide +kernel
theorem dL_law_770 : decode cL_law 770 = .ok (.aload 6, 2) := by decide +kernel
theorem dL_law_772 : decode cL_law 772 = .ok (.iload 19, 2) := by decide +kernel
theorem dL_law_774 : decode cL_law 774 = .ok (.aaload, 1) := by decide +kernel
theorem dL_law_775 : decode cL_law 775 = .ok (.bipush 6, 2) := by decide +kernel
theorem dL_law_777 : decode cL_law 777 = .ok (.iaload, 1) := by decide +kernel
theorem dL_law_778 : decode cL_law 778 = .ok (.if_icmp .ne 20, 3) := by decide +kernel
theorem dL_law_781 : decode cL_law 781 = .ok (.aload_n 1, 1) := by decide +kernel
theorem dL_law_782 : decode cL_law 782 = .ok (.iload 19, 2) := by decide +kernel
theorem dL_law_784 : decode cL_law 784 = .ok (.iconst 1, 1) := by decide +kernel
theorem dL_law_785 : decode cL_law 785 = .ok (.invokevirtual 103, 3) := by decide +kernel
theorem dL_law_788 : decode cL_law 788 = .ok (.aload 6, 2) := by decide +kernel
theorem dL_law_790 : decode cL_law 790 = .ok (.iload 19, 2) := by decide +kernel
theorem dL_law_792 : decode cL_law 792 = .ok (.aaload, 1) := by decide +kernel
theorem dL_law_793 : decode cL_law 793 = .ok (.iconst 1, 1) := by decide +kernel
theorem dL_law_794 : decode cL_law 794 = .ok (.iaload, 1) := by decide +kernel
theorem dL_law_795 : decode cL_law 795 = .ok (.if_icmp .eq 5, 3) := by decide +kernel
theorem dL_law_798 : decode cL_law 798 = .ok (.iconst 0, 1) := by decide +kernel
theorem dL_law_799 : decode cL_law 799 = .ok (.ireturn, 1) := by decide +kernel
theorem dL_law_800 : decode cL_law 800 = .ok (.iconst 0, 1) := by decide +kernel
theorem dL_law_801 : decode cL_law 801 = .ok (.istore 23, 2) := by decide +kernel
theorem dL_law_803 : decode cL_law 803 = .ok (.aload_n 2, 1) := by decide +kernel
theorem dL_law_804 : decode cL_law 804 = .ok (.getfield 81, 3) := by decide +kernel
theorem dL_law_807 : decode cL_law 807 = .ok (.astore 24, 2) := by decide +kernel
theorem dL_law_809 : decode cL_law 809 = .ok (.aload 24, 2) := by decide +kernel
theorem dL_law_811 : decode cL_law 811 = .ok (.arraylength, 1) := by decide +kernel
theorem dL_law_812 : decode cL_law 812 = .ok (.istore 25, 2) := by decide +kernel
theorem dL_law_814 : decode cL_law 814 = .ok (.iconst 0, 1) := by decide +kernel
theorem dL_law_815 : decode cL_law 815 = .ok (.istore 26, 2) := by decide +kernel
theorem dL_law_817 : decode cL_law 817 = .ok (.iload 26, 2) := by decide +kernel
theorem dL_law_819 : decode cL_law 819 = .ok (.iload 25, 2) := by decide +kernel
theorem dL_law_821 : decode cL_law 821 = .ok (.if_icmp .ge 46, 3) := by decide +kernel
theorem dL_law_824 : decode cL_law 824 = .ok (.aload 24, 2) := by decide +kernel
theorem dL_law_826 : decode cL_law 826 = .ok (.iload 26, 2) := by decide +kernel
theorem dL_law_828 : decode cL_law 828 = .ok (.aaload, 1) := by decide +kernel
theorem dL_law_829 : decode cL_law 829 = .ok (.astore 27, 2) := by decide +kernel
theorem dL_law_831 : decode cL_law 831 = .ok (.iload 23, 2) := by decide +kernel
theorem dL_law_833 : decode cL_law 833 = .ok (.ifCond .ne 21, 3) := by decide +kernel
theorem dL_law_836 : decode cL_law 836 = .ok (.aload 27, 2) := by decide +kernel
theorem dL_law_838 : decode cL_law 838 = .ok (.iconst 0, 1) := by decide +kernel
theorem dL_law_839 : decode cL_law 839 = .ok (.iaload, 1) := by decide +kernel
theorem dL_law_840 : decode cL_law 840 = .ok (.iload 19, 2) := by decide +kernel
theorem dL_law_842 : decode cL_law 842 = .ok (.if_icmp .eq 12, 3) := by decide +kernel
theorem dL_law_845 : decode cL_law 845 = .ok (.aload 27, 2) := by decide +kernel
theorem dL_law_847 : decode cL_law 847 = .ok (.iconst 1, 1) := by decide +kernel
theorem dL_law_848 : decode cL_law 848 = .ok (.iaload, 1) := by decide +kernel
theorem dL_law_849 : decode cL_law 849 = .ok (.iload 19, 2) := by decide +kernel
theorem dL_law_851 : decode cL_law 851 = .ok (.if_icmp .ne 7, 3) := by decide +kernel
theorem dL_law_854 : decode cL_law 854 = .ok (.iconst 1, 1) := by decide +kernel
theorem dL_law_855 : decode cL_law 855 = .ok (.goto 4, 3) := by decide +kernel
theorem dL_law_858 : decode cL_law 858 = .ok (.iconst 0, 1) := by decide +kernel
theorem dL_law_859 : decode cL_law 859 = .ok (.istore 23, 2) := by decide +kernel
theorem dL_law_861 : decode cL_law 861 = .ok (.iinc 26 1, 3) := by decide +kernel
theorem dL_law_864 : decode cL_law 864 = .ok (.goto (-47), 3) := by decide +kernel
theorem dL_law_867 : decode cL_law 867 = .ok (.iload 23, 2) := by decide +kernel
theorem dL_law_869 : decode cL_law 869 = .ok (.ifCond .ne 34, 3) := by decide +kernel
theorem dL_law_872 : decode cL_law 872 = .ok (.iload 21, 2) := by decide +kernel
theorem dL_law_874 : decode cL_law 874 = .ok (.ifCond .le 8, 3) := by decide +kernel
theorem dL_law_877 : decode cL_law 877 = .ok (.iload 20, 2) := by decide +kernel
theorem dL_law_879 : decode cL_law 879 = .ok (.ifCond .ne 22, 3) := by decide +kernel
theorem dL_law_882 : decode cL_law 882 = .ok (.iload 22, 2) := by decide +kernel
theorem dL_law_884 : decode cL_law 884 = .ok (.ifCond .le 19, 3) := by decide +kernel
theorem dL_law_887 : decode cL_law 887 = .ok (.iconst 2, 1) := by decide +kernel
theorem dL_law_888 : decode cL_law 888 = .ok (.iload 20, 2) := by decide +kernel
theorem dL_law_890 : decode cL_law 890 = .ok (.imul, 1) := by decide +kernel
theorem dL_law_891 : decode cL_law 891 = .ok (.aload 6, 2) := by decide +kernel
theorem dL_law_893 : decode cL_law 893 = .ok (.iload 19, 2) := by decide +kernel
theorem dL_law_895 : decode cL_law 895 = .ok (.aaload, 1) := by decide +kernel
theorem dL_law_896 : decode cL_law 896 = .ok (.iconst 1, 1) := by decide +kernel
theorem dL_law_897 : decode cL_law 897 = .ok (.iaload, 1) := by decide +kernel
theorem dL_law_898 : decode cL_law 898 = .ok (.if_icmp .ge 5, 3) := by decide +kernel
theorem dL_law_901 : decode cL_law 901 = .ok (.iconst 0, 1) := by decide +kernel
theorem dL_law_902 : decode cL_law 902 = .ok (.ireturn, 1) := by decide +kernel
theorem dL_law_903 : decode cL_law 903 = .ok (.iconst 0, 1) := by decide +kernel
theorem dL_law_904 : decode cL_law 904 = .ok (.istore 24, 2) := by decide +kernel
theorem dL_law_906 : decode cL_law 906 = .ok (.iload 24, 2) := by decide +kernel
theorem dL_law_908 : decode cL_law 908 = .ok (.iload_n 3, 1) := by decide +kernel
theorem dL_law_909 : decode cL_law 909 = .ok (.if_icmp .ge 157, 3) := by decide +kernel
theorem dL_law_912 : decode cL_law 912 = .ok (.aload_n 1, 1) := by decide +kernel
theorem dL_law_913 : decode cL_law 913 = .ok (.iload 19, 2) := by decide +kernel
theorem dL_law_915 : decode cL_law 915 = .ok (.iload 24, 2) := by decide +kernel
theorem dL_law_917 : decode cL_law 917 = .ok (.invokevirtual 109, 3) := by decide +kernel
theorem dL_law_920 : decode cL_law 920 = .ok (.aload 8, 2) := by decide +kernel
theorem dL_law_922 : decode cL_law 922 = .ok (.iload 19, 2) := by decide +kernel
theorem dL_law_924 : decode cL_law 924 = .ok (.aaload, 1) := by decide +kernel
theorem dL_law_925 : decode cL_law 925 = .ok (.iload 24, 2) := by decide +kernel
theorem dL_law_927 : decode cL_law 927 = .ok (.iaload, 1) := by decide +kernel
theorem dL_law_928 : decode cL_law 928 = .ok (.isub, 1) := by decide +kernel
theorem dL_law_929 : decode cL_law 929 = .ok (.istore 25, 2) := by decide +kernel
theorem dL_law_931 : decode cL_law 931 = .ok (.aload_n 1, 1) := by decide +kernel
theorem dL_law_932 : decode cL_law 932 = .ok (.iload 19, 2) := by decide +kernel
theorem dL_law_934 : decode cL_law 934 = .ok (.iload 24, 2) := by decide +kernel
theorem dL_law_936 : decode cL_law 936 = .ok (.invokevirtual 109, 3) := by decide +kernel
theorem dL_law_939 : decode cL_law 939 = .ok (.aload_n 1, 1) := by decide +kernel
theorem dL_law_940 : decode cL_law 940 = .ok (.iload 24, 2) := by decide +kernel
theorem dL_law_942 : decode cL_law 942 = .ok (.iload 19, 2) := by decide +kernel
theorem dL_law_944 : decode cL_law 944 = .ok (.invokevirtual 109, 3) := by decide +kernel
theorem dL_law_947 : decode cL_law 947 = .ok (.ineg, 1) := by decide +kernel
theorem dL_law_948 : decode cL_law 948 = .ok (.if_icmp .eq 5, 3) := by decide +kernel
theorem dL_law_951 : decode cL_law 951 = .ok (.iconst 0, 1) := by decide +kernel
theorem dL_law_952 : decode cL_law 952 = .ok (.ireturn, 1) := by decide +kernel
theorem dL_law_953 : decode cL_law 953 = .ok (.iconst 0, 1) := by decide +kernel
theorem dL_law_954 : decode cL_law 954 = .ok (.istore 26, 2) := by decide +kernel
theorem dL_law_956 : decode cL_law 956 = .ok (.aload_n 2, 1) := by decide +kernel
theorem dL_law_957 : decode cL_law 957 = .ok (.getfield 81, 3) := by decide +kernel
theorem dL_law_960 : decode cL_law 960 = .ok (.astore 27, 2) := by decide +kernel
theorem dL_law_962 : decode cL_law 962 = .ok (.aload 27, 2) := by decide +kernel
theorem dL_law_964 : decode cL_law 964 = .ok (.arraylength, 1) := by decide +kernel
theorem dL_law_965 : decode cL_law 965 = .ok (.istore 28, 2) := by decide +kernel
theorem dL_law_967 : decode cL_law 967 = .ok (.iconst 0, 1) := by decide +kernel
theorem dL_law_968 : decode cL_law 968 = .ok (.istore 29, 2) := by decide +kernel
theorem dL_law_970 : decode cL_law 970 = .ok (.iload 29, 2) := by decide +kernel
theorem dL_law_972 : decode cL_law 972 = .ok (.iload 28, 2) := by decide +kernel
theorem dL_law_974 : decode cL_law 974 = .ok (.if_icmp .ge 69, 3) := by decide +kernel
theorem dL_law_977 : decode cL_law 977 = .ok (.aload 27, 2) := by decide +kernel
theorem dL_law_979 : decode cL_law 979 = .ok (.iload 29, 2) := by decide +kernel
theorem dL_law_981 : decode cL_law 981 = .ok (.aaload, 1) := by decide +kernel
theorem dL_law_982 : decode cL_law 982 = .ok (.astore 30, 2) := by decide +kernel
theorem dL_law_984 : decode cL_law 984 = .ok (.aload 30, 2) := by decide +kernel
theorem dL_law_986 : decode cL_law 986 = .ok (.iconst 3, 1) := by decide +kernel
theorem dL_law_987 : decode cL_law 987 = .ok (.iaload, 1) := by decide +kernel
theorem dL_law_988 : decode cL_law 988 = .ok (.iconst 1, 1) := by decide +kernel
theorem dL_law_989 : decode cL_law 989 = .ok (.if_icmp .ne 48, 3) := by decide +kernel
theorem dL_law_992 : decode cL_law 992 = .ok (.aload 30, 2) := by decide +kernel
theorem dL_law_994 : decode cL_law 994 = .ok (.iconst 0, 1) := by decide +kernel
theorem dL_law_995 : decode cL_law 995 = .ok (.iaload, 1) := by decide +kernel
theorem dL_law_996 : decode cL_law 996 = .ok (.iload 19, 2) := by decide +kernel
theorem dL_law_998 : decode cL_law 998 = .ok (.if_icmp .ne 12, 3) := by decide +kernel
theorem dL_law_1001 : decode cL_law 1001 = .ok (.aload 30, 2) := by decide +kernel
theorem dL_law_1003 : decode cL_law 1003 = .ok (.iconst 1, 1) := by decide +kernel
theorem dL_law_1004 : decode cL_law 1004 = .ok (.iaload, 1) := by decide +kernel
theorem dL_law_1005 : decode cL_law 1005 = .ok (.iload 24, 2) := by decide +kernel
theorem dL_law_1007 : decode cL_law 1007 = .ok (.if_icmp .eq 21, 3) := by decide +kernel
theorem dL_law_1010 : decode cL_law 1010 = .ok (.aload 30, 2) := by decide +kernel
theorem dL_law_1012 : decode cL_law 1012 = .ok (.iconst 0, 1) := by decide +kernel
theorem dL_law_1013 : decode cL_law 1013 = .ok (.iaload, 1) := by decide +kernel
theorem dL_law_1014 : decode cL_law 1014 = .ok (.iload 24, 2) := by decide +kernel
theorem dL_law_1016 : decode cL_law 1016 = .ok (.if_icmp .ne 21, 3) := by decide +kernel
theorem dL_law_1019 : decode cL_law 1019 = .ok (.aload 30, 2) := by decide +kernel
theorem dL_law_1021 : decode cL_law 1021 = .ok (.iconst 1, 1) := by decide +kernel
theorem dL_law_1022 : decode cL_law 1022 = .ok (.iaload, 1) := by decide +kernel
theorem dL_law_1023 : decode cL_law 1023 = .ok (.iload 19, 2) := by decide +kernel
theorem dL_law_1025 : decode cL_law 1025 = .ok (.if_icmp .ne 12, 3) := by decide +kernel
theorem dL_law_1028 : decode cL_law 1028 = .ok (.iload 26, 2) := by decide +kernel
theorem dL_law_1030 : decode cL_law 1030 = .ok (.aload 30, 2) := by decide +kernel
theorem dL_law_1032 : decode cL_law 1032 = .ok (.iconst 2, 1) := by decide +kernel
theorem dL_law_1033 : decode cL_law 1033 = .ok (.iaload, 1) := by decide +kernel
theorem dL_law_1034 : decode cL_law 1034 = .ok (.iadd, 1) := by decide +kernel
theorem dL_law_1035 : decode cL_law 1035 = .ok (.istore 26, 2) := by decide +kernel
theorem dL_law_1037 : decode cL_law 1037 = .ok (.iinc 29 1, 3) := by decide +kernel
theorem dL_law_1040 : decode cL_law 1040 = .ok (.goto (-70), 3) := by decide +kernel
theorem dL_law_1043 : decode cL_law 1043 = .ok (.iload 25, 2) := by decide +kernel
theorem dL_law_1045 : decode cL_law 1045 = .ok (.iload 26, 2) := by decide +kernel
theorem dL_law_1047 : decode cL_law 1047 = .ok (.if_icmp .gt 11, 3) := by decide +kernel
theorem dL_law_1050 : decode cL_law 1050 = .ok (.iload 25, 2) := by decide +kernel
theorem dL_law_1052 : decode cL_law 1052 = .ok (.ineg, 1) := by decide +kernel
theorem dL_law_1053 : decode cL_law 1053 = .ok (.iload 26, 2) := by decide +kernel
theorem dL_law_1055 : decode cL_law 1055 = .ok (.if_icmp .le 5, 3) := by decide +kernel
theorem dL_law_1058 : decode cL_law 1058 = .ok (.iconst 0, 1) := by decide +kernel
theorem dL_law_1059 : decode cL_law 1059 = .ok (.ireturn, 1) := by decide +kernel
theorem dL_law_1060 : decode cL_law 1060 = .ok (.iinc 24 1, 3) := by decide +kernel
theorem dL_law_1063 : decode cL_law 1063 = .ok (.goto (-157), 3) := by decide +kernel
theorem dL_law_1066 : decode cL_law 1066 = .ok (.iinc 19 1, 3) := by decide +kernel
theorem dL_law_1069 : decode cL_law 1069 = .ok (.goto (-527), 3) := by decide +kernel
theorem dL_law_1072 : decode cL_law 1072 = .ok (.aload_n 1, 1) := by decide +kernel
theorem dL_law_1073 : decode cL_law 1073 = .ok (.iconst 5, 1) := by decide +kernel
theorem dL_law_1074 : decode cL_law 1074 = .ok (.invokevirtual 118, 3) := by decide +kernel
theorem dL_law_1077 : decode cL_law 1077 = .ok (.aload 14, 2) := by decide +kernel
theorem dL_law_1079 : decode cL_law 1079 = .ok (.iconst 5, 1) := by decide +kernel
theorem dL_law_1080 : decode cL_law 1080 = .ok (.iaload, 1) := by decide +kernel
theorem dL_law_1081 : decode cL_law 1081 = .ok (.iload 17, 2) := by decide +kernel
theorem dL_law_1083 : decode cL_law 1083 = .ok (.iadd, 1) := by decide +kernel
theorem dL_law_1084 : decode cL_law 1084 = .ok (.if_icmp .ne 23, 3) := by decide +kernel
theorem dL_law_1087 : decode cL_law 1087 = .ok (.aload_n 1, 1) := by decide +kernel
theorem dL_law_1088 : decode cL_law 1088 = .ok (.bipush 7, 2) := by decide +kernel
theorem dL_law_1090 : decode cL_law 1090 = .ok (.invokevirtual 118, 3) := by decide +kernel
theorem dL_law_1093 : decode cL_law 1093 = .ok (.aload 14, 2) := by decide +kernel
theorem dL_law_1095 : decode cL_law 1095 = .ok (.bipush 7, 2) := by decide +kernel
theorem dL_law_1097 : decode cL_law 1097 = .ok (.iaload, 1) := by decide +kernel
theorem dL_law_1098 : decode cL_law 1098 = .ok (.iload 18, 2) := by decide +kernel
theorem dL_law_1100 : decode cL_law 1100 = .ok (.iadd, 1) := by decide +kernel
theorem dL_law_1101 : decode cL_law 1101 = .ok (.iload 16, 2) := by decide +kernel
theorem dL_law_1103 : decode cL_law 1103 = .ok (.isub, 1) := by decide +kernel
theorem dL_law_1104 : decode cL_law 1104 = .ok (.if_icmp .eq 5, 3) := by decide +kernel
theorem dL_law_1107 : decode cL_law 1107 = .ok (.iconst 0, 1) := by decide +kernel
theorem dL_law_1108 : decode cL_law 1108 = .ok (.ireturn, 1) := by decide +kernel
theorem dL_law_1109 : decode cL_law 1109 = .ok (.iconst 0, 1) := by decide +kernel
theorem dL_law_1110 : decode cL_law 1110 = .ok (.istore 19, 2) := by decide +kernel
theorem dL_law_1112 : decode cL_law 1112 = .ok (.iload 19, 2) := by decide +kernel
theorem dL_law_1114 : decode cL_law 1114 = .ok (.aload 7, 2) := by decide +kernel
theorem dL_law_1116 : decode cL_law 1116 = .ok (.arraylength, 1) := by decide +kernel
theorem dL_law_1117 : decode cL_law 1117 = .ok (.if_icmp .ge 58, 3) := by decide +kernel
theorem dL_law_1120 : decode cL_law 1120 = .ok (.aload_n 1, 1) := by decide +kernel
theorem dL_law_1121 : decode cL_law 1121 = .ok (.iload 19, 2) := by decide +kernel
theorem dL_law_1123 : decode cL_law 1123 = .ok (.iconst 4, 1) := by decide +kernel
theorem dL_law_1124 : decode cL_law 1124 = .ok (.invokevirtual 106, 3) := by decide +kernel
theorem dL_law_1127 : decode cL_law 1127 = .ok (.aload 7, 2) := by decide +kernel
theorem dL_law_1129 : decode cL_law 1129 = .ok (.iload 19, 2) := by decide +kernel
theorem dL_law_1131 : decode cL_law 1131 = .ok (.iaload, 1) := by decide +kernel
theorem dL_law_1132 : decode cL_law 1132 = .ok (.isub, 1) := by decide +kernel
theorem dL_law_1133 : decode cL_law 1133 = .ok (.istore 20, 2) := by decide +kernel
theorem dL_law_1135 : decode cL_law 1135 = .ok (.iload 20, 2) := by decide +kernel
theorem dL_law_1137 : decode cL_law 1137 = .ok (.ifCond .lt 30, 3) := by decide +kernel
theorem dL_law_1140 : decode cL_law 1140 = .ok (.iload 20, 2) := by decide +kernel
theorem dL_law_1142 : decode cL_law 1142 = .ok (.aload_n 1, 1) := by decide +kernel
theorem dL_law_1143 : decode cL_law 1143 = .ok (.iload 19, 2) := by decide +kernel
theorem dL_law_1145 : decode cL_law 1145 = .ok (.iconst 2, 1) := by decide +kernel
theorem dL_law_1146 : decode cL_law 1146 = .ok (.invokevirtual 106, 3) := by decide +kernel
theorem dL_law_1149 : decode cL_law 1149 = .ok (.if_icmp .gt 18, 3) := by decide +kernel
theorem dL_law_1152 : decode cL_law 1152 = .ok (.aload_n 1, 1) := by decide +kernel
theorem dL_law_1153 : decode cL_law 1153 = .ok (.iload 19, 2) := by decide +kernel
theorem dL_law_1155 : decode cL_law 1155 = .ok (.iconst 3, 1) := by decide +kernel
theorem dL_law_1156 : decode cL_law 1156 = .ok (.invokevirtual 106, 3) := by decide +kernel
theorem dL_law_1159 : decode cL_law 1159 = .ok (.ifCond .ne 10, 3) := by decide +kernel
theorem dL_law_1162 : decode cL_law 1162 = .ok (.iload 20, 2) := by decide +kernel
theorem dL_law_1164 : decode cL_law 1164 = .ok (.ifCond .eq 5, 3) := by decide +kernel
theorem dL_law_1167 : decode cL_law 1167 = .ok (.iconst 0, 1) := by decide +kernel
theorem dL_law_1168 : decode cL_law 1168 = .ok (.ireturn, 1) := by decide +kernel
theorem dL_law_1169 : decode cL_law 1169 = .ok (.iinc 19 1, 3) := by decide +kernel
theorem dL_law_1172 : decode cL_law 1172 = .ok (.goto (-60), 3) := by decide +kernel
theorem dL_law_1175 : decode cL_law 1175 = .ok (.iinc 4 1, 3) := by decide +kernel
theorem dL_law_1178 : decode cL_law 1178 = .ok (.goto (-1149), 3) := by decide +kernel
theorem dL_law_1181 : decode cL_law 1181 = .ok (.aload_n 2, 1) := by decide +kernel
theorem dL_law_1182 : decode cL_law 1182 = .ok (.aload_n 1, 1) := by decide +kernel
theorem dL_law_1183 : decode cL_law 1183 = .ok (.invokevirtual 135, 3) := by decide +kernel
theorem dL_law_1186 : decode cL_law 1186 = .ok (.ireturn, 1) := by decide +kernel
end
section
/-! the words of the tables that a method may rest on: those that stay as the tables warm -/
def UW : List Cond := lw_tbl.filter goodWord
theorem wU {w : Cond} (i : Nat) (h : tables_1[i]? = some w) (hg : goodWord w = true) : w ∈ UW := List.mem_filter.mpr ⟨List.mem_append_right _ (List.mem_of_getElem? h), hg⟩
theorem wV {w : Cond} (i : Nat) (h : (k2_sels lw_privs)[i]? = some w) (hg : goodWord w = true) : w ∈ UW := List.mem_filter.mpr ⟨List.mem_append_left _ (List.mem_of_getElem? h), hg⟩
theorem wz_L : (Cond.initialized "RoofWaterLaw") ∈ UW := wU 0 (by decide +kernel) (by decide +kernel)
theorem wz_X4 : (Cond.initialized "RoofWater") ∈ UW := wU 1 (by decide +kernel) (by decide +kernel)
theorem wz_X3 : (Cond.initialized "RoofWater$Weather") ∈ UW := wU 2 (by decide +kernel) (by decide +kernel)
theorem wz_X2 : (Cond.initialized "RoofWater$Village") ∈ UW := wU 3 (by decide +kernel) (by decide +kernel)
theorem wz_X0 : (Cond.initialized "RoofWater$House") ∈ UW := wU 4 (by decide +kernel) (by decide +kernel)
theorem wz_X1 : (Cond.initialized "RoofWater$Pipe") ∈ UW := wU 5 (by decide +kernel) (by decide +kernel)
theorem wz_X6 : (Cond.initialized "RoofWaterLaw$Sim") ∈ UW := wU 6 (by decide +kernel) (by decide +kernel)
theorem wz_Throwable : (Cond.initialized "java/lang/Throwable") ∈ UW := wU 7 (by decide +kernel) (by decide +kernel)
theorem wz_Exception : (Cond.initialized "java/lang/Exception") ∈ UW := wU 8 (by decide +kernel) (by decide +kernel)
theorem wz_RuntimeException : (Cond.initialized "java/lang/RuntimeException") ∈ UW := wU 9 (by decide +kernel) (by decide +kernel)
theorem wz_IndexOutOfBoundsException : (Cond.initialized "java/lang/IndexOutOfBoundsException") ∈ UW := wU 10 (by decide +kernel) (by decide +kernel)
theorem wz_IllegalArgumentException : (Cond.initialized "java/lang/IllegalArgumentException") ∈ UW := wU 11 (by decide +kernel) (by decide +kernel)
theorem wz_IllegalStateException : (Cond.initialized "java/lang/IllegalStateException") ∈ UW := wU 12 (by decide +kernel) (by decide +kernel)
theorem wz_X5 : (Cond.initialized "RoofWaterLaw$House") ∈ UW := wU 13 (by decide +kernel) (by decide +kernel)
theorem wz_J9 : (Cond.initialized "java/lang/Math") ∈ UW := wU 14 (by decide +kernel) (by decide +kernel)
theorem wk_L_27 : (Cond.classLink "RoofWaterLaw" 27 "RoofWater") ∈ UW := wU 15 (by decide +kernel) (by decide +kernel)
theorem wn_X4 : (Cond.instantiable "RoofWater" 3) ∈ UW := wU 16 (by decide +kernel) (by decide +kernel)
theorem wm_L_94 : (Cond.methodLink "RoofWaterLaw" 94 yX4_init) ∈ UW := wU 17 (by decide +kernel) (by decide +kernel)
theorem wi_X4_init : (Cond.instanceMethod yX4_init) ∈ UW := wU 18 (by decide +kernel) (by decide +kernel)
theorem wc_X4_init : (Cond.code yX4_init cX4_init 1 (Option.none : Option FieldType)) ∈ UW := wU 19 (by decide +kernel) (by decide +kernel)
theorem wm_X4_1 : (Cond.methodLink "RoofWater" 1 ({ cls := "java/lang/Object", name := "<init>", desc := "()V" } : MethodName)) ∈ UW := wU 20 (by decide +kernel) (by decide +kernel)
theorem wi_Object__init_ : (Cond.instanceMethod ({ cls := "java/lang/Object", name := "<init>", desc := "()V" } : MethodName)) ∈ UW := wU 21 (by decide +kernel) (by decide +kernel)
theorem wc_Object__init_ : (Cond.code ({ cls := "java/lang/Object", name := "<init>", desc := "()V" } : MethodName) object_method_1_code 1 (Option.none : Option FieldType)) ∈ UW := wU 22 (by decide +kernel) (by decide +kernel)
theorem wk_X4_7 : (Cond.classLink "RoofWater" 7 "RoofWater$Weather") ∈ UW := wU 23 (by decide +kernel) (by decide +kernel)
theorem wn_X3 : (Cond.instantiable "RoofWater$Weather" 2) ∈ UW := wU 24 (by decide +kernel) (by decide +kernel)
theorem wi_X3_init : (Cond.instanceMethod yX3_init) ∈ UW := wU 26 (by decide +kernel) (by decide +kernel)
theorem wc_X3_init : (Cond.code yX3_init cX3_init 1 (Option.none : Option FieldType)) ∈ UW := wU 27 (by decide +kernel) (by decide +kernel)
theorem wm_X3_1 : (Cond.methodLink "RoofWater$Weather" 1 ({ cls := "java/lang/Object", name := "<init>", desc := "()V" } : MethodName)) ∈ UW := wU 28 (by decide +kernel) (by decide +kernel)
theorem wf_X3_9 : (Cond.fieldLink "RoofWater$Weather" 9 "RoofWater$Weather" "rain" "[I") ∈ UW := wU 29 (by decide +kernel) (by decide +kernel)
theorem wf_X3_13 : (Cond.fieldLink "RoofWater$Weather" 13 "RoofWater$Weather" "leaves" "[I") ∈ UW := wU 30 (by decide +kernel) (by decide +kernel)
theorem wl_X3_rain : (Cond.laysFinal "RoofWater$Weather" "RoofWater$Weather" "rain" "[I") ∈ UW := wU 31 (by decide +kernel) (by decide +kernel)
theorem wl_X3_leaves : (Cond.laysFinal "RoofWater$Weather" "RoofWater$Weather" "leaves" "[I") ∈ UW := wU 33 (by decide +kernel) (by decide +kernel)
theorem wa_int : (Cond.arrayClass FieldType.int) ∈ UW := wU 36 (by decide +kernel) (by decide +kernel)
theorem wk_X4_16 : (Cond.classLink "RoofWater" 16 "RoofWater$Village") ∈ UW := wU 37 (by decide +kernel) (by decide +kernel)
theorem wn_X2 : (Cond.instantiable "RoofWater$Village" 10) ∈ UW := wU 38 (by decide +kernel) (by decide +kernel)
theorem wm_X4_18 : (Cond.methodLink "RoofWater" 18 yX2_init) ∈ UW := wU 39 (by decide +kernel) (by decide +kernel)
theorem wi_X2_init : (Cond.instanceMethod yX2_init) ∈ UW := wU 40 (by decide +kernel) (by decide +kernel)
theorem wc_X2_init : (Cond.code yX2_init cX2_init 3 (Option.none : Option FieldType)) ∈ UW := wU 41 (by decide +kernel) (by decide +kernel)
theorem wm_X2_3 : (Cond.methodLink "RoofWater$Village" 3 ({ cls := "java/lang/Object", name := "<init>", desc := "()V" } : MethodName)) ∈ UW := wU 42 (by decide +kernel) (by decide +kernel)
theorem wk_X2_11 : (Cond.classLink "RoofWater$Village" 11 "RoofWater$House") ∈ UW := wU 43 (by decide +kernel) (by decide +kernel)
theorem wk_X2_17 : (Cond.classLink "RoofWater$Village" 17 "RoofWater$Pipe") ∈ UW := wU 45 (by decide +kernel) (by decide +kernel)
theorem wn_X0 : (Cond.instantiable "RoofWater$House" 10) ∈ UW := wU 47 (by decide +kernel) (by decide +kernel)
theorem wi_X0_init : (Cond.instanceMethod yX0_init) ∈ UW := wU 49 (by decide +kernel) (by decide +kernel)
theorem wc_X0_init : (Cond.code yX0_init cX0_init 1 (Option.none : Option FieldType)) ∈ UW := wU 50 (by decide +kernel) (by decide +kernel)
theorem wm_X0_3 : (Cond.methodLink "RoofWater$House" 3 ({ cls := "java/lang/Object", name := "<init>", desc := "()V" } : MethodName)) ∈ UW := wU 51 (by decide +kernel) (by decide +kernel)
theorem wf_X0_15 : (Cond.fieldLink "RoofWater$House" 15 "RoofWater$House" "roof" "I") ∈ UW := wU 52 (by decide +kernel) (by decide +kernel)
theorem wf_X2_58 : (Cond.fieldLink "RoofWater$Village" 58 "RoofWater$House" "roof" "I") ∈ UW := wU 53 (by decide +kernel) (by decide +kernel)
theorem wf_X0_18 : (Cond.fieldLink "RoofWater$House" 18 "RoofWater$House" "holds" "I") ∈ UW := wU 54 (by decide +kernel) (by decide +kernel)
theorem wf_X1_29 : (Cond.fieldLink "RoofWater$Pipe" 29 "RoofWater$House" "holds" "I") ∈ UW := wU 55 (by decide +kernel) (by decide +kernel)
theorem wf_X2_61 : (Cond.fieldLink "RoofWater$Village" 61 "RoofWater$House" "holds" "I") ∈ UW := wU 56 (by decide +kernel) (by decide +kernel)
theorem wf_X0_21 : (Cond.fieldLink "RoofWater$House" 21 "RoofWater$House" "water" "I") ∈ UW := wU 57 (by decide +kernel) (by decide +kernel)
theorem wf_X1_34 : (Cond.fieldLink "RoofWater$Pipe" 34 "RoofWater$House" "water" "I") ∈ UW := wU 58 (by decide +kernel) (by decide +kernel)
theorem wf_X2_151 : (Cond.fieldLink "RoofWater$Village" 151 "RoofWater$House" "water" "I") ∈ UW := wU 59 (by decide +kernel) (by decide +kernel)
theorem wf_X0_24 : (Cond.fieldLink "RoofWater$House" 24 "RoofWater$House" "people" "I") ∈ UW := wU 60 (by decide +kernel) (by decide +kernel)
theorem wf_X2_64 : (Cond.fieldLink "RoofWater$Village" 64 "RoofWater$House" "people" "I") ∈ UW := wU 61 (by decide +kernel) (by decide +kernel)
theorem wf_X4_112 : (Cond.fieldLink "RoofWater" 112 "RoofWater$House" "people" "I") ∈ UW := wU 62 (by decide +kernel) (by decide +kernel)
theorem wf_X0_27 : (Cond.fieldLink "RoofWater$House" 27 "RoofWater$House" "garden" "I") ∈ UW := wU 63 (by decide +kernel) (by decide +kernel)
theorem wf_X2_67 : (Cond.fieldLink "RoofWater$Village" 67 "RoofWater$House" "garden" "I") ∈ UW := wU 64 (by decide +kernel) (by decide +kernel)
theorem wf_X0_30 : (Cond.fieldLink "RoofWater$House" 30 "RoofWater$House" "clogged" "I") ∈ UW := wU 65 (by decide +kernel) (by decide +kernel)
theorem wf_X4_102 : (Cond.fieldLink "RoofWater" 102 "RoofWater$House" "clogged" "I") ∈ UW := wU 66 (by decide +kernel) (by decide +kernel)
theorem wf_X0_9 : (Cond.fieldLink "RoofWater$House" 9 "RoofWater$House" "next" "I") ∈ UW := wU 67 (by decide +kernel) (by decide +kernel)
theorem wf_X4_74 : (Cond.fieldLink "RoofWater" 74 "RoofWater$House" "next" "I") ∈ UW := wU 68 (by decide +kernel) (by decide +kernel)
theorem wf_X2_87 : (Cond.fieldLink "RoofWater$Village" 87 "RoofWater$House" "next" "I") ∈ UW := wU 69 (by decide +kernel) (by decide +kernel)
theorem wf_X0_33 : (Cond.fieldLink "RoofWater$House" 33 "RoofWater$House" "thirst" "I") ∈ UW := wU 70 (by decide +kernel) (by decide +kernel)
theorem wf_X2_154 : (Cond.fieldLink "RoofWater$Village" 154 "RoofWater$House" "thirst" "I") ∈ UW := wU 71 (by decide +kernel) (by decide +kernel)
theorem wf_X0_36 : (Cond.fieldLink "RoofWater$House" 36 "RoofWater$House" "watered" "I") ∈ UW := wU 72 (by decide +kernel) (by decide +kernel)
theorem wf_X2_157 : (Cond.fieldLink "RoofWater$Village" 157 "RoofWater$House" "watered" "I") ∈ UW := wU 73 (by decide +kernel) (by decide +kernel)
theorem wf_X0_39 : (Cond.fieldLink "RoofWater$House" 39 "RoofWater$House" "thirstyDays" "I") ∈ UW := wU 74 (by decide +kernel) (by decide +kernel)
theorem wf_X2_101 : (Cond.fieldLink "RoofWater$Village" 101 "RoofWater$House" "thirstyDays" "I") ∈ UW := wU 75 (by decide +kernel) (by decide +kernel)
theorem wl_X0_roof : (Cond.lays "RoofWater$House" "RoofWater$House" "roof" "I") ∈ UW := wU 76 (by decide +kernel) (by decide +kernel)
theorem wl_X0_holds : (Cond.lays "RoofWater$House" "RoofWater$House" "holds" "I") ∈ UW := wU 78 (by decide +kernel) (by decide +kernel)
theorem wl_X0_water : (Cond.lays "RoofWater$House" "RoofWater$House" "water" "I") ∈ UW := wU 80 (by decide +kernel) (by decide +kernel)
theorem wl_X0_people : (Cond.lays "RoofWater$House" "RoofWater$House" "people" "I") ∈ UW := wU 82 (by decide +kernel) (by decide +kernel)
theorem wl_X0_garden : (Cond.lays "RoofWater$House" "RoofWater$House" "garden" "I") ∈ UW := wU 84 (by decide +kernel) (by decide +kernel)
theorem wl_X0_clogged : (Cond.lays "RoofWater$House" "RoofWater$House" "clogged" "I") ∈ UW := wU 86 (by decide +kernel) (by decide +kernel)
theorem wl_X0_next : (Cond.lays "RoofWater$House" "RoofWater$House" "next" "I") ∈ UW := wU 88 (by decide +kernel) (by decide +kernel)
theorem wl_X0_thirst : (Cond.lays "RoofWater$House" "RoofWater$House" "thirst" "I") ∈ UW := wU 90 (by decide +kernel) (by decide +kernel)
theorem wl_X0_watered : (Cond.lays "RoofWater$House" "RoofWater$House" "watered" "I") ∈ UW := wU 92 (by decide +kernel) (by decide +kernel)
theorem wl_X0_thirstyDays : (Cond.lays "RoofWater$House" "RoofWater$House" "thirstyDays" "I") ∈ UW := wU 94 (by decide +kernel) (by decide +kernel)
theorem wn_X1 : (Cond.instantiable "RoofWater$Pipe" 6) ∈ UW := wU 97 (by decide +kernel) (by decide +kernel)
theorem wi_X1_init : (Cond.instanceMethod yX1_init) ∈ UW := wU 99 (by decide +kernel) (by decide +kernel)
theorem wc_X1_init : (Cond.code yX1_init cX1_init 1 (Option.none : Option FieldType)) ∈ UW := wU 100 (by decide +kernel) (by decide +kernel)
theorem wm_X1_1 : (Cond.methodLink "RoofWater$Pipe" 1 ({ cls := "java/lang/Object", name := "<init>", desc := "()V" } : MethodName)) ∈ UW := wU 101 (by decide +kernel) (by decide +kernel)
theorem wf_X1_7 : (Cond.fieldLink "RoofWater$Pipe" 7 "RoofWater$Pipe" "a" "I") ∈ UW := wU 102 (by decide +kernel) (by decide +kernel)
theorem wf_X2_70 : (Cond.fieldLink "RoofWater$Village" 70 "RoofWater$Pipe" "a" "I") ∈ UW := wU 103 (by decide +kernel) (by decide +kernel)
theorem wf_X1_13 : (Cond.fieldLink "RoofWater$Pipe" 13 "RoofWater$Pipe" "b" "I") ∈ UW := wU 104 (by decide +kernel) (by decide +kernel)
theorem wf_X2_73 : (Cond.fieldLink "RoofWater$Village" 73 "RoofWater$Pipe" "b" "I") ∈ UW := wU 105 (by decide +kernel) (by decide +kernel)
theorem wf_X1_16 : (Cond.fieldLink "RoofWater$Pipe" 16 "RoofWater$Pipe" "lets" "I") ∈ UW := wU 106 (by decide +kernel) (by decide +kernel)
theorem wf_X2_76 : (Cond.fieldLink "RoofWater$Village" 76 "RoofWater$Pipe" "lets" "I") ∈ UW := wU 107 (by decide +kernel) (by decide +kernel)
theorem wf_X1_19 : (Cond.fieldLink "RoofWater$Pipe" 19 "RoofWater$Pipe" "isOpen" "Z") ∈ UW := wU 108 (by decide +kernel) (by decide +kernel)
theorem wf_X4_96 : (Cond.fieldLink "RoofWater" 96 "RoofWater$Pipe" "isOpen" "Z") ∈ UW := wU 109 (by decide +kernel) (by decide +kernel)
theorem wf_X2_79 : (Cond.fieldLink "RoofWater$Village" 79 "RoofWater$Pipe" "isOpen" "Z") ∈ UW := wU 110 (by decide +kernel) (by decide +kernel)
theorem wf_X1_23 : (Cond.fieldLink "RoofWater$Pipe" 23 "RoofWater$Pipe" "through" "I") ∈ UW := wU 111 (by decide +kernel) (by decide +kernel)
theorem wf_X1_26 : (Cond.fieldLink "RoofWater$Pipe" 26 "RoofWater$Pipe" "toB" "I") ∈ UW := wU 112 (by decide +kernel) (by decide +kernel)
theorem wl_X1_a : (Cond.lays "RoofWater$Pipe" "RoofWater$Pipe" "a" "I") ∈ UW := wU 113 (by decide +kernel) (by decide +kernel)
theorem wl_X1_b : (Cond.lays "RoofWater$Pipe" "RoofWater$Pipe" "b" "I") ∈ UW := wU 115 (by decide +kernel) (by decide +kernel)
theorem wl_X1_lets : (Cond.lays "RoofWater$Pipe" "RoofWater$Pipe" "lets" "I") ∈ UW := wU 117 (by decide +kernel) (by decide +kernel)
theorem wl_X1_isOpen : (Cond.lays "RoofWater$Pipe" "RoofWater$Pipe" "isOpen" "Z") ∈ UW := wU 119 (by decide +kernel) (by decide +kernel)
theorem wl_X1_through : (Cond.lays "RoofWater$Pipe" "RoofWater$Pipe" "through" "I") ∈ UW := wU 121 (by decide +kernel) (by decide +kernel)
theorem wl_X1_toB : (Cond.lays "RoofWater$Pipe" "RoofWater$Pipe" "toB" "I") ∈ UW := wU 123 (by decide +kernel) (by decide +kernel)
theorem wf_X2_23 : (Cond.fieldLink "RoofWater$Village" 23 "RoofWater$Village" "weather" "LRoofWater$Weather;") ∈ UW := wU 126 (by decide +kernel) (by decide +kernel)
theorem wf_X2_13 : (Cond.fieldLink "RoofWater$Village" 13 "RoofWater$Village" "houses" "[LRoofWater$House;") ∈ UW := wU 127 (by decide +kernel) (by decide +kernel)
theorem wf_X4_70 : (Cond.fieldLink "RoofWater" 70 "RoofWater$Village" "houses" "[LRoofWater$House;") ∈ UW := wU 128 (by decide +kernel) (by decide +kernel)
theorem wf_X2_19 : (Cond.fieldLink "RoofWater$Village" 19 "RoofWater$Village" "pipes" "[LRoofWater$Pipe;") ∈ UW := wU 129 (by decide +kernel) (by decide +kernel)
theorem wf_X4_92 : (Cond.fieldLink "RoofWater" 92 "RoofWater$Village" "pipes" "[LRoofWater$Pipe;") ∈ UW := wU 130 (by decide +kernel) (by decide +kernel)
theorem wf_X2_29 : (Cond.fieldLink "RoofWater$Village" 29 "RoofWater$Village" "houseCount" "I") ∈ UW := wU 131 (by decide +kernel) (by decide +kernel)
theorem wf_X4_47 : (Cond.fieldLink "RoofWater" 47 "RoofWater$Village" "houseCount" "I") ∈ UW := wU 132 (by decide +kernel) (by decide +kernel)
theorem wf_X2_33 : (Cond.fieldLink "RoofWater$Village" 33 "RoofWater$Village" "pipeCount" "I") ∈ UW := wU 133 (by decide +kernel) (by decide +kernel)
theorem wf_X4_82 : (Cond.fieldLink "RoofWater" 82 "RoofWater$Village" "pipeCount" "I") ∈ UW := wU 134 (by decide +kernel) (by decide +kernel)
theorem wf_X2_36 : (Cond.fieldLink "RoofWater$Village" 36 "RoofWater$Village" "day" "I") ∈ UW := wU 135 (by decide +kernel) (by decide +kernel)
theorem wf_X2_39 : (Cond.fieldLink "RoofWater$Village" 39 "RoofWater$Village" "fromRoofs" "I") ∈ UW := wU 136 (by decide +kernel) (by decide +kernel)
theorem wf_X2_42 : (Cond.fieldLink "RoofWater$Village" 42 "RoofWater$Village" "lost" "I") ∈ UW := wU 137 (by decide +kernel) (by decide +kernel)
theorem wf_X4_136 : (Cond.fieldLink "RoofWater" 136 "RoofWater$Village" "lost" "I") ∈ UW := wU 138 (by decide +kernel) (by decide +kernel)
theorem wf_X2_45 : (Cond.fieldLink "RoofWater$Village" 45 "RoofWater$Village" "drunk" "I") ∈ UW := wU 139 (by decide +kernel) (by decide +kernel)
theorem wf_X2_48 : (Cond.fieldLink "RoofWater$Village" 48 "RoofWater$Village" "carted" "I") ∈ UW := wU 140 (by decide +kernel) (by decide +kernel)
theorem wf_X4_105 : (Cond.fieldLink "RoofWater" 105 "RoofWater$Village" "carted" "I") ∈ UW := wU 141 (by decide +kernel) (by decide +kernel)
theorem wl_X2_weather : (Cond.laysFinal "RoofWater$Village" "RoofWater$Village" "weather" "LRoofWater$Weather;") ∈ UW := wU 142 (by decide +kernel) (by decide +kernel)
theorem wl_X2_houses : (Cond.laysFinal "RoofWater$Village" "RoofWater$Village" "houses" "[LRoofWater$House;") ∈ UW := wU 144 (by decide +kernel) (by decide +kernel)
theorem wl_X2_pipes : (Cond.laysFinal "RoofWater$Village" "RoofWater$Village" "pipes" "[LRoofWater$Pipe;") ∈ UW := wU 146 (by decide +kernel) (by decide +kernel)
theorem wl_X2_houseCount : (Cond.lays "RoofWater$Village" "RoofWater$Village" "houseCount" "I") ∈ UW := wU 148 (by decide +kernel) (by decide +kernel)
theorem wl_X2_pipeCount : (Cond.lays "RoofWater$Village" "RoofWater$Village" "pipeCount" "I") ∈ UW := wU 150 (by decide +kernel) (by decide +kernel)
theorem wl_X2_day : (Cond.lays "RoofWater$Village" "RoofWater$Village" "day" "I") ∈ UW := wU 152 (by decide +kernel) (by decide +kernel)
theorem wl_X2_fromRoofs : (Cond.lays "RoofWater$Village" "RoofWater$Village" "fromRoofs" "I") ∈ UW := wU 154 (by decide +kernel) (by decide +kernel)
theorem wl_X2_lost : (Cond.lays "RoofWater$Village" "RoofWater$Village" "lost" "I") ∈ UW := wU 156 (by decide +kernel) (by decide +kernel)
theorem wl_X2_drunk : (Cond.lays "RoofWater$Village" "RoofWater$Village" "drunk" "I") ∈ UW := wU 158 (by decide +kernel) (by decide +kernel)
theorem wl_X2_carted : (Cond.lays "RoofWater$Village" "RoofWater$Village" "carted" "I") ∈ UW := wU 160 (by decide +kernel) (by decide +kernel)
theorem wf_X4_10 : (Cond.fieldLink "RoofWater" 10 "RoofWater" "weather" "LRoofWater$Weather;") ∈ UW := wU 163 (by decide +kernel) (by decide +kernel)
theorem wf_X4_21 : (Cond.fieldLink "RoofWater" 21 "RoofWater" "village" "LRoofWater$Village;") ∈ UW := wU 164 (by decide +kernel) (by decide +kernel)
theorem wf_X4_25 : (Cond.fieldLink "RoofWater" 25 "RoofWater" "trial" "LRoofWater$Village;") ∈ UW := wU 165 (by decide +kernel) (by decide +kernel)
theorem wl_X4_weather : (Cond.laysFinal "RoofWater" "RoofWater" "weather" "LRoofWater$Weather;") ∈ UW := wU 166 (by decide +kernel) (by decide +kernel)
theorem wl_X4_village : (Cond.laysFinal "RoofWater" "RoofWater" "village" "LRoofWater$Village;") ∈ UW := wU 168 (by decide +kernel) (by decide +kernel)
theorem wl_X4_trial : (Cond.laysFinal "RoofWater" "RoofWater" "trial" "LRoofWater$Village;") ∈ UW := wU 170 (by decide +kernel) (by decide +kernel)
theorem wm_L_103 : (Cond.methodLink "RoofWaterLaw" 103 yX4_house) ∈ UW := wU 173 (by decide +kernel) (by decide +kernel)
theorem wi_X4_house : (Cond.instanceMethod yX4_house) ∈ UW := wU 174 (by decide +kernel) (by decide +kernel)
theorem ws_X4_house : (Cond.selects "RoofWater" yX4_house yX4_house) ∈ UW := wU 175 (by decide +kernel) (by decide +kernel)
theorem wc_X4_house : (Cond.code yX4_house cX4_house 3 (Option.some FieldType.int)) ∈ UW := wU 176 (by decide +kernel) (by decide +kernel)
theorem wm_X4_58 : (Cond.methodLink "RoofWater" 58 yX4_needHouse) ∈ UW := wU 177 (by decide +kernel) (by decide +kernel)
theorem wi_X4_needHouse : (Cond.instanceMethod yX4_needHouse) ∈ UW := wU 179 (by decide +kernel) (by decide +kernel)
theorem wc_X4_needHouse : (Cond.code yX4_needHouse cX4_needHouse 2 (Option.none : Option FieldType)) ∈ UW := wU 180 (by decide +kernel) (by decide +kernel)
theorem wm_X4_62 : (Cond.methodLink "RoofWater" 62 yX2_hasHouse) ∈ UW := wU 181 (by decide +kernel) (by decide +kernel)
theorem wi_X2_hasHouse : (Cond.instanceMethod yX2_hasHouse) ∈ UW := wU 182 (by decide +kernel) (by decide +kernel)
theorem ws_X2_hasHouse : (Cond.selects "RoofWater$Village" yX2_hasHouse yX2_hasHouse) ∈ UW := wU 183 (by decide +kernel) (by decide +kernel)
theorem wc_X2_hasHouse : (Cond.code yX2_hasHouse cX2_hasHouse 2 (Option.some FieldType.boolean)) ∈ UW := wU 184 (by decide +kernel) (by decide +kernel)
theorem wk_X4_169 : (Cond.classLink "RoofWater" 169 "java/lang/IndexOutOfBoundsException") ∈ UW := wU 185 (by decide +kernel) (by decide +kernel)
theorem wn_IndexOutOfBoundsException : (Cond.instantiable "java/lang/IndexOutOfBoundsException" 6) ∈ UW := wU 186 (by decide +kernel) (by decide +kernel)
theorem ws_java_lang_Throwable_fillInStackTrace : (Cond.selects "java/lang/IndexOutOfBoundsException" ({ cls := "java/lang/Throwable", name := "fillInStackTrace", desc := "(I)Ljava/lang/Throwable;" } : MethodName) ({ cls := "java/lang/Throwable", name := "fillInStackTrace", desc := "(I)Ljava/lang/Throwable;" } : MethodName)) ∈ UW := wU 194 (by decide +kernel) (by decide +kernel)
theorem ws_java_lang_Throwable_fillInStackTrace_b195 : (Cond.selects "java/lang/IndexOutOfBoundsException" ({ cls := "java/lang/Throwable", name := "fillInStackTrace", desc := "()Ljava/lang/Throwable;" } : MethodName) ({ cls := "java/lang/Throwable", name := "fillInStackTrace", desc := "()Ljava/lang/Throwable;" } : MethodName)) ∈ UW := wU 195 (by decide +kernel) (by decide +kernel)
theorem w9_196 : (Cond.lays "java/lang/IndexOutOfBoundsException" "java/lang/Throwable" "cause" "Ljava/lang/Throwable;") ∈ UW := wU 196 (by decide +kernel) (by decide +kernel)
theorem w9_197 : (Cond.lays "java/lang/Throwable" "java/lang/Throwable" "cause" "Ljava/lang/Throwable;") ∈ UW := wU 197 (by decide +kernel) (by decide +kernel)
theorem w9_198 : (Cond.lays "java/lang/IndexOutOfBoundsException" "java/lang/Throwable" "stackTrace" "[Ljava/lang/StackTraceElement;") ∈ UW := wU 198 (by decide +kernel) (by decide +kernel)
theorem w9_199 : (Cond.lays "java/lang/Throwable" "java/lang/Throwable" "stackTrace" "[Ljava/lang/StackTraceElement;") ∈ UW := wU 199 (by decide +kernel) (by decide +kernel)
theorem w9_200 : (Cond.lays "java/lang/IndexOutOfBoundsException" "java/lang/Throwable" "suppressedExceptions" "Ljava/util/List;") ∈ UW := wU 200 (by decide +kernel) (by decide +kernel)
theorem w9_201 : (Cond.lays "java/lang/Throwable" "java/lang/Throwable" "suppressedExceptions" "Ljava/util/List;") ∈ UW := wU 201 (by decide +kernel) (by decide +kernel)
theorem w9_202 : (Cond.lays "java/lang/IndexOutOfBoundsException" "java/lang/Throwable" "detailMessage" "Ljava/lang/String;") ∈ UW := wU 202 (by decide +kernel) (by decide +kernel)
theorem w9_203 : (Cond.lays "java/lang/Throwable" "java/lang/Throwable" "detailMessage" "Ljava/lang/String;") ∈ UW := wU 203 (by decide +kernel) (by decide +kernel)
theorem w9_204 : (Cond.lays "java/lang/IndexOutOfBoundsException" "java/lang/Throwable" "backtrace" "Ljava/lang/Object;") ∈ UW := wU 204 (by decide +kernel) (by decide +kernel)
theorem w9_205 : (Cond.lays "java/lang/Throwable" "java/lang/Throwable" "backtrace" "Ljava/lang/Object;") ∈ UW := wU 205 (by decide +kernel) (by decide +kernel)
theorem w9_206 : (Cond.fieldLink "java/lang/Throwable" 198 "java/lang/Throwable" "backtrace" "Ljava/lang/Object;") ∈ UW := wU 206 (by decide +kernel) (by decide +kernel)
theorem wi_Throwable__init_ : (Cond.instanceMethod ({ cls := "java/lang/Throwable", name := "<init>", desc := "()V" } : MethodName)) ∈ UW := wU 208 (by decide +kernel) (by decide +kernel)
theorem wc_Throwable__init_ : (Cond.code ({ cls := "java/lang/Throwable", name := "<init>", desc := "()V" } : MethodName) prog_17_method_1_code 1 (Option.none : Option FieldType)) ∈ UW := wU 209 (by decide +kernel) (by decide +kernel)
theorem w9_210 : (Cond.methodLink "java/lang/Throwable" 1 ({ cls := "java/lang/Object", name := "<init>", desc := "()V" } : MethodName)) ∈ UW := wU 210 (by decide +kernel) (by decide +kernel)
theorem w9_211 : (Cond.fieldLink "java/lang/Throwable" 13 "java/lang/Throwable" "UNASSIGNED_STACK" "[Ljava/lang/StackTraceElement;") ∈ UW := wU 211 (by decide +kernel) (by decide +kernel)
theorem w9_213 : (Cond.fieldLink "java/lang/Throwable" 20 "java/lang/Throwable" "SUPPRESSED_SENTINEL" "Ljava/util/List;") ∈ UW := wU 213 (by decide +kernel) (by decide +kernel)
theorem w9_215 : (Cond.methodLink "java/lang/Throwable" 27 ({ cls := "java/lang/Throwable", name := "fillInStackTrace", desc := "()Ljava/lang/Throwable;" } : MethodName)) ∈ UW := wU 215 (by decide +kernel) (by decide +kernel)
theorem wi_Throwable_fillInStackTrace : (Cond.instanceMethod ({ cls := "java/lang/Throwable", name := "fillInStackTrace", desc := "()Ljava/lang/Throwable;" } : MethodName)) ∈ UW := wU 216 (by decide +kernel) (by decide +kernel)
theorem w9_217 : (Cond.sameMethod "java/lang/Throwable" "java/lang/Throwable" "fillInStackTrace" "()Ljava/lang/Throwable;") ∈ UW := wU 217 (by decide +kernel) (by decide +kernel)
theorem ws_java_lang_Throwable_fillInStackTrace_b218 : (Cond.selects "java/lang/IllegalArgumentException" ({ cls := "java/lang/Throwable", name := "fillInStackTrace", desc := "()Ljava/lang/Throwable;" } : MethodName) ({ cls := "java/lang/Throwable", name := "fillInStackTrace", desc := "()Ljava/lang/Throwable;" } : MethodName)) ∈ UW := wU 218 (by decide +kernel) (by decide +kernel)
theorem ws_java_lang_Throwable_fillInStackTrace_b219 : (Cond.selects "java/lang/IllegalStateException" ({ cls := "java/lang/Throwable", name := "fillInStackTrace", desc := "()Ljava/lang/Throwable;" } : MethodName) ({ cls := "java/lang/Throwable", name := "fillInStackTrace", desc := "()Ljava/lang/Throwable;" } : MethodName)) ∈ UW := wU 219 (by decide +kernel) (by decide +kernel)
theorem w9_221 : (Cond.methodLink "java/lang/Throwable" 202 ({ cls := "java/lang/Throwable", name := "fillInStackTrace", desc := "(I)Ljava/lang/Throwable;" } : MethodName)) ∈ UW := wU 221 (by decide +kernel) (by decide +kernel)
theorem wi_Throwable_fillInStackTrace_b223 : (Cond.instanceMethod ({ cls := "java/lang/Throwable", name := "fillInStackTrace", desc := "(I)Ljava/lang/Throwable;" } : MethodName)) ∈ UW := wU 223 (by decide +kernel) (by decide +kernel)
theorem wn_Throwable : (Cond.instantiable "java/lang/Throwable" 6) ∈ UW := wU 224 (by decide +kernel) (by decide +kernel)
theorem wv_Throwable_fillInStackTrace : (Cond.native ({ cls := "java/lang/Throwable", name := "fillInStackTrace", desc := "(I)Ljava/lang/Throwable;" } : MethodName)) ∈ UW := wU 225 (by decide +kernel) (by decide +kernel)
theorem wm_X4_173 : (Cond.methodLink "RoofWater" 173 ({ cls := "java/lang/IndexOutOfBoundsException", name := "<init>", desc := "(Ljava/lang/String;)V" } : MethodName)) ∈ UW := wU 227 (by decide +kernel) (by decide +kernel)
theorem wi_IndexOutOfBoundsException__init_ : (Cond.instanceMethod ({ cls := "java/lang/IndexOutOfBoundsException", name := "<init>", desc := "(Ljava/lang/String;)V" } : MethodName)) ∈ UW := wU 228 (by decide +kernel) (by decide +kernel)
theorem wc_IndexOutOfBoundsException__init_ : (Cond.code ({ cls := "java/lang/IndexOutOfBoundsException", name := "<init>", desc := "(Ljava/lang/String;)V" } : MethodName) prog_13_method_2_code 2 (Option.none : Option FieldType)) ∈ UW := wU 229 (by decide +kernel) (by decide +kernel)
theorem w9_230 : (Cond.methodLink "java/lang/IndexOutOfBoundsException" 7 ({ cls := "java/lang/RuntimeException", name := "<init>", desc := "(Ljava/lang/String;)V" } : MethodName)) ∈ UW := wU 230 (by decide +kernel) (by decide +kernel)
theorem wi_RuntimeException__init_ : (Cond.instanceMethod ({ cls := "java/lang/RuntimeException", name := "<init>", desc := "(Ljava/lang/String;)V" } : MethodName)) ∈ UW := wU 231 (by decide +kernel) (by decide +kernel)
theorem wc_RuntimeException__init_ : (Cond.code ({ cls := "java/lang/RuntimeException", name := "<init>", desc := "(Ljava/lang/String;)V" } : MethodName) prog_15_method_2_code 2 (Option.none : Option FieldType)) ∈ UW := wU 232 (by decide +kernel) (by decide +kernel)
theorem w9_233 : (Cond.methodLink "java/lang/RuntimeException" 7 ({ cls := "java/lang/Exception", name := "<init>", desc := "(Ljava/lang/String;)V" } : MethodName)) ∈ UW := wU 233 (by decide +kernel) (by decide +kernel)
theorem wi_Exception__init_ : (Cond.instanceMethod ({ cls := "java/lang/Exception", name := "<init>", desc := "(Ljava/lang/String;)V" } : MethodName)) ∈ UW := wU 234 (by decide +kernel) (by decide +kernel)
theorem wc_Exception__init_ : (Cond.code ({ cls := "java/lang/Exception", name := "<init>", desc := "(Ljava/lang/String;)V" } : MethodName) prog_10_method_2_code 2 (Option.none : Option FieldType)) ∈ UW := wU 235 (by decide +kernel) (by decide +kernel)
theorem w9_236 : (Cond.methodLink "java/lang/Exception" 7 ({ cls := "java/lang/Throwable", name := "<init>", desc := "(Ljava/lang/String;)V" } : MethodName)) ∈ UW := wU 236 (by decide +kernel) (by decide +kernel)
theorem wi_Throwable__init__b237 : (Cond.instanceMethod ({ cls := "java/lang/Throwable", name := "<init>", desc := "(Ljava/lang/String;)V" } : MethodName)) ∈ UW := wU 237 (by decide +kernel) (by decide +kernel)
theorem wc_Throwable__init__b238 : (Cond.code ({ cls := "java/lang/Throwable", name := "<init>", desc := "(Ljava/lang/String;)V" } : MethodName) prog_17_method_2_code 2 (Option.none : Option FieldType)) ∈ UW := wU 238 (by decide +kernel) (by decide +kernel)
theorem w9_239 : (Cond.fieldLink "java/lang/Throwable" 198 "java/lang/Throwable" "backtrace" "Ljava/lang/Object;") ∈ UW := wU 239 (by decide +kernel) (by decide +kernel)
theorem w9_240 : (Cond.fieldLink "java/lang/Throwable" 31 "java/lang/Throwable" "detailMessage" "Ljava/lang/String;") ∈ UW := wU 240 (by decide +kernel) (by decide +kernel)
theorem w9_241 : (Cond.fieldLink "java/lang/Throwable" 7 "java/lang/Throwable" "cause" "Ljava/lang/Throwable;") ∈ UW := wU 241 (by decide +kernel) (by decide +kernel)
theorem w9_242 : (Cond.fieldLink "java/lang/Throwable" 17 "java/lang/Throwable" "stackTrace" "[Ljava/lang/StackTraceElement;") ∈ UW := wU 242 (by decide +kernel) (by decide +kernel)
theorem w9_243 : (Cond.fieldLink "java/lang/Throwable" 24 "java/lang/Throwable" "suppressedExceptions" "Ljava/util/List;") ∈ UW := wU 243 (by decide +kernel) (by decide +kernel)
theorem w9_248 : (Cond.lays "java/lang/IndexOutOfBoundsException" "java/lang/Throwable" "depth" "I") ∈ UW := wU 248 (by decide +kernel) (by decide +kernel)
theorem wa_byte : (Cond.arrayClass FieldType.byte) ∈ UW := wU 252 (by decide +kernel) (by decide +kernel)
theorem wm_X4_28 : (Cond.methodLink "RoofWater" 28 yX4_isWithin) ∈ UW := wU 253 (by decide +kernel) (by decide +kernel)
theorem wt_X4_isWithin : (Cond.static yX4_isWithin) ∈ UW := wU 254 (by decide +kernel) (by decide +kernel)
theorem wc_X4_isWithin : (Cond.code yX4_isWithin cX4_isWithin 3 (Option.some FieldType.boolean)) ∈ UW := wU 255 (by decide +kernel) (by decide +kernel)
theorem wm_X4_32 : (Cond.methodLink "RoofWater" 32 yX4_needIndex) ∈ UW := wU 256 (by decide +kernel) (by decide +kernel)
theorem wt_X4_needIndex : (Cond.static yX4_needIndex) ∈ UW := wU 257 (by decide +kernel) (by decide +kernel)
theorem wc_X4_needIndex : (Cond.code yX4_needIndex cX4_needIndex 1 (Option.none : Option FieldType)) ∈ UW := wU 258 (by decide +kernel) (by decide +kernel)
theorem wm_X4_115 : (Cond.methodLink "RoofWater" 115 yX0_fact) ∈ UW := wU 260 (by decide +kernel) (by decide +kernel)
theorem wi_X0_fact : (Cond.instanceMethod yX0_fact) ∈ UW := wU 261 (by decide +kernel) (by decide +kernel)
theorem ws_X0_fact : (Cond.selects "RoofWater$House" yX0_fact yX0_fact) ∈ UW := wU 262 (by decide +kernel) (by decide +kernel)
theorem wc_X0_fact : (Cond.code yX0_fact cX0_fact 2 (Option.some FieldType.int)) ∈ UW := wU 263 (by decide +kernel) (by decide +kernel)
theorem wm_L_106 : (Cond.methodLink "RoofWaterLaw" 106 yX4_pipe) ∈ UW := wU 264 (by decide +kernel) (by decide +kernel)
theorem wi_X4_pipe : (Cond.instanceMethod yX4_pipe) ∈ UW := wU 265 (by decide +kernel) (by decide +kernel)
theorem ws_X4_pipe : (Cond.selects "RoofWater" yX4_pipe yX4_pipe) ∈ UW := wU 266 (by decide +kernel) (by decide +kernel)
theorem wc_X4_pipe : (Cond.code yX4_pipe cX4_pipe 3 (Option.some FieldType.int)) ∈ UW := wU 267 (by decide +kernel) (by decide +kernel)
theorem wm_X4_89 : (Cond.methodLink "RoofWater" 89 yX4_needPipe) ∈ UW := wU 268 (by decide +kernel) (by decide +kernel)
theorem wi_X4_needPipe : (Cond.instanceMethod yX4_needPipe) ∈ UW := wU 270 (by decide +kernel) (by decide +kernel)
theorem wc_X4_needPipe : (Cond.code yX4_needPipe cX4_needPipe 2 (Option.none : Option FieldType)) ∈ UW := wU 271 (by decide +kernel) (by decide +kernel)
theorem wm_X4_176 : (Cond.methodLink "RoofWater" 176 yX2_hasPipe) ∈ UW := wU 272 (by decide +kernel) (by decide +kernel)
theorem wi_X2_hasPipe : (Cond.instanceMethod yX2_hasPipe) ∈ UW := wU 273 (by decide +kernel) (by decide +kernel)
theorem ws_X2_hasPipe : (Cond.selects "RoofWater$Village" yX2_hasPipe yX2_hasPipe) ∈ UW := wU 274 (by decide +kernel) (by decide +kernel)
theorem wc_X2_hasPipe : (Cond.code yX2_hasPipe cX2_hasPipe 2 (Option.some FieldType.boolean)) ∈ UW := wU 275 (by decide +kernel) (by decide +kernel)
theorem wm_X4_118 : (Cond.methodLink "RoofWater" 118 yX1_fact) ∈ UW := wU 277 (by decide +kernel) (by decide +kernel)
theorem wi_X1_fact : (Cond.instanceMethod yX1_fact) ∈ UW := wU 278 (by decide +kernel) (by decide +kernel)
theorem ws_X1_fact : (Cond.selects "RoofWater$Pipe" yX1_fact yX1_fact) ∈ UW := wU 279 (by decide +kernel) (by decide +kernel)
theorem wc_X1_fact : (Cond.code yX1_fact cX1_fact 2 (Option.some FieldType.int)) ∈ UW := wU 280 (by decide +kernel) (by decide +kernel)
theorem wm_L_109 : (Cond.methodLink "RoofWaterLaw" 109 yX4_owes) ∈ UW := wU 281 (by decide +kernel) (by decide +kernel)
theorem wi_X4_owes : (Cond.instanceMethod yX4_owes) ∈ UW := wU 282 (by decide +kernel) (by decide +kernel)
theorem ws_X4_owes : (Cond.selects "RoofWater" yX4_owes yX4_owes) ∈ UW := wU 283 (by decide +kernel) (by decide +kernel)
theorem wc_X4_owes : (Cond.code yX4_owes cX4_owes 3 (Option.some FieldType.int)) ∈ UW := wU 284 (by decide +kernel) (by decide +kernel)
theorem wm_X4_119 : (Cond.methodLink "RoofWater" 119 yX2_debt) ∈ UW := wU 285 (by decide +kernel) (by decide +kernel)
theorem wi_X2_debt : (Cond.instanceMethod yX2_debt) ∈ UW := wU 286 (by decide +kernel) (by decide +kernel)
theorem ws_X2_debt : (Cond.selects "RoofWater$Village" yX2_debt yX2_debt) ∈ UW := wU 287 (by decide +kernel) (by decide +kernel)
theorem wc_X2_debt : (Cond.code yX2_debt cX2_debt 5 (Option.some FieldType.int)) ∈ UW := wU 288 (by decide +kernel) (by decide +kernel)
theorem wm_X2_139 : (Cond.methodLink "RoofWater$Village" 139 yX1_debt) ∈ UW := wU 289 (by decide +kernel) (by decide +kernel)
theorem wi_X1_debt : (Cond.instanceMethod yX1_debt) ∈ UW := wU 290 (by decide +kernel) (by decide +kernel)
theorem ws_X1_debt : (Cond.selects "RoofWater$Pipe" yX1_debt yX1_debt) ∈ UW := wU 291 (by decide +kernel) (by decide +kernel)
theorem wc_X1_debt : (Cond.code yX1_debt cX1_debt 3 (Option.some FieldType.int)) ∈ UW := wU 292 (by decide +kernel) (by decide +kernel)
theorem wm_L_124 : (Cond.methodLink "RoofWaterLaw" 124 yX4_pass) ∈ UW := wU 293 (by decide +kernel) (by decide +kernel)
theorem wi_X4_pass : (Cond.instanceMethod yX4_pass) ∈ UW := wU 294 (by decide +kernel) (by decide +kernel)
theorem ws_X4_pass : (Cond.selects "RoofWater" yX4_pass yX4_pass) ∈ UW := wU 295 (by decide +kernel) (by decide +kernel)
theorem wc_X4_pass : (Cond.code yX4_pass cX4_pass 2 (Option.some FieldType.int)) ∈ UW := wU 296 (by decide +kernel) (by decide +kernel)
theorem wm_X4_36 : (Cond.methodLink "RoofWater" 36 yX4_needArgument) ∈ UW := wU 297 (by decide +kernel) (by decide +kernel)
theorem wt_X4_needArgument : (Cond.static yX4_needArgument) ∈ UW := wU 298 (by decide +kernel) (by decide +kernel)
theorem wc_X4_needArgument : (Cond.code yX4_needArgument cX4_needArgument 1 (Option.none : Option FieldType)) ∈ UW := wU 299 (by decide +kernel) (by decide +kernel)
theorem wk_X4_183 : (Cond.classLink "RoofWater" 183 "java/lang/IllegalArgumentException") ∈ UW := wU 300 (by decide +kernel) (by decide +kernel)
theorem wn_IllegalArgumentException : (Cond.instantiable "java/lang/IllegalArgumentException" 6) ∈ UW := wU 301 (by decide +kernel) (by decide +kernel)
theorem ws_java_lang_Throwable_fillInStackTrace_b303 : (Cond.selects "java/lang/IllegalArgumentException" ({ cls := "java/lang/Throwable", name := "fillInStackTrace", desc := "(I)Ljava/lang/Throwable;" } : MethodName) ({ cls := "java/lang/Throwable", name := "fillInStackTrace", desc := "(I)Ljava/lang/Throwable;" } : MethodName)) ∈ UW := wU 303 (by decide +kernel) (by decide +kernel)
theorem w9_304 : (Cond.lays "java/lang/IllegalArgumentException" "java/lang/Throwable" "cause" "Ljava/lang/Throwable;") ∈ UW := wU 304 (by decide +kernel) (by decide +kernel)
theorem w9_305 : (Cond.lays "java/lang/IllegalArgumentException" "java/lang/Throwable" "stackTrace" "[Ljava/lang/StackTraceElement;") ∈ UW := wU 305 (by decide +kernel) (by decide +kernel)
theorem w9_306 : (Cond.lays "java/lang/IllegalArgumentException" "java/lang/Throwable" "suppressedExceptions" "Ljava/util/List;") ∈ UW := wU 306 (by decide +kernel) (by decide +kernel)
theorem w9_307 : (Cond.lays "java/lang/IllegalArgumentException" "java/lang/Throwable" "detailMessage" "Ljava/lang/String;") ∈ UW := wU 307 (by decide +kernel) (by decide +kernel)
theorem w9_308 : (Cond.lays "java/lang/IllegalArgumentException" "java/lang/Throwable" "backtrace" "Ljava/lang/Object;") ∈ UW := wU 308 (by decide +kernel) (by decide +kernel)
theorem wm_X4_187 : (Cond.methodLink "RoofWater" 187 ({ cls := "java/lang/IllegalArgumentException", name := "<init>", desc := "(Ljava/lang/String;)V" } : MethodName)) ∈ UW := wU 310 (by decide +kernel) (by decide +kernel)
theorem wi_IllegalArgumentException__init_ : (Cond.instanceMethod ({ cls := "java/lang/IllegalArgumentException", name := "<init>", desc := "(Ljava/lang/String;)V" } : MethodName)) ∈ UW := wU 311 (by decide +kernel) (by decide +kernel)
theorem wc_IllegalArgumentException__init_ : (Cond.code ({ cls := "java/lang/IllegalArgumentException", name := "<init>", desc := "(Ljava/lang/String;)V" } : MethodName) prog_11_method_2_code 2 (Option.none : Option FieldType)) ∈ UW := wU 312 (by decide +kernel) (by decide +kernel)
theorem w9_313 : (Cond.methodLink "java/lang/IllegalArgumentException" 7 ({ cls := "java/lang/RuntimeException", name := "<init>", desc := "(Ljava/lang/String;)V" } : MethodName)) ∈ UW := wU 313 (by decide +kernel) (by decide +kernel)
theorem w9_314 : (Cond.lays "java/lang/IllegalArgumentException" "java/lang/Throwable" "depth" "I") ∈ UW := wU 314 (by decide +kernel) (by decide +kernel)
theorem wm_X4_122 : (Cond.methodLink "RoofWater" 122 yX2_live) ∈ UW := wU 316 (by decide +kernel) (by decide +kernel)
theorem wi_X2_live : (Cond.instanceMethod yX2_live) ∈ UW := wU 317 (by decide +kernel) (by decide +kernel)
theorem ws_X2_live : (Cond.selects "RoofWater$Village" yX2_live yX2_live) ∈ UW := wU 318 (by decide +kernel) (by decide +kernel)
theorem wc_X2_live : (Cond.code yX2_live cX2_live 4 (Option.some FieldType.int)) ∈ UW := wU 319 (by decide +kernel) (by decide +kernel)
theorem wm_X2_94 : (Cond.methodLink "RoofWater$Village" 94 yX2_allThirst) ∈ UW := wU 320 (by decide +kernel) (by decide +kernel)
theorem wi_X2_allThirst : (Cond.instanceMethod yX2_allThirst) ∈ UW := wU 322 (by decide +kernel) (by decide +kernel)
theorem wc_X2_allThirst : (Cond.code yX2_allThirst cX2_allThirst 3 (Option.some FieldType.int)) ∈ UW := wU 323 (by decide +kernel) (by decide +kernel)
theorem wm_X2_98 : (Cond.methodLink "RoofWater$Village" 98 yX2_liveDay) ∈ UW := wU 324 (by decide +kernel) (by decide +kernel)
theorem wi_X2_liveDay : (Cond.instanceMethod yX2_liveDay) ∈ UW := wU 326 (by decide +kernel) (by decide +kernel)
theorem wc_X2_liveDay : (Cond.code yX2_liveDay cX2_liveDay 3 (Option.none : Option FieldType)) ∈ UW := wU 327 (by decide +kernel) (by decide +kernel)
theorem wm_X2_104 : (Cond.methodLink "RoofWater$Village" 104 yX3_rainOn) ∈ UW := wU 328 (by decide +kernel) (by decide +kernel)
theorem wi_X3_rainOn : (Cond.instanceMethod yX3_rainOn) ∈ UW := wU 329 (by decide +kernel) (by decide +kernel)
theorem ws_X3_rainOn : (Cond.selects "RoofWater$Weather" yX3_rainOn yX3_rainOn) ∈ UW := wU 330 (by decide +kernel) (by decide +kernel)
theorem wc_X3_rainOn : (Cond.code yX3_rainOn cX3_rainOn 2 (Option.some FieldType.int)) ∈ UW := wU 331 (by decide +kernel) (by decide +kernel)
theorem wm_X3_16 : (Cond.methodLink "RoofWater$Weather" 16 yJ9_floorMod_7cf53) ∈ UW := wU 332 (by decide +kernel) (by decide +kernel)
theorem wt_J9_floorMod_7cf53 : (Cond.static yJ9_floorMod_7cf53) ∈ UW := wU 333 (by decide +kernel) (by decide +kernel)
theorem wc_J9_floorMod_7cf53 : (Cond.code yJ9_floorMod_7cf53 cJ9_floorMod_7cf53 3 (Option.some FieldType.int)) ∈ UW := wU 334 (by decide +kernel) (by decide +kernel)
theorem wm_X2_109 : (Cond.methodLink "RoofWater$Village" 109 yX2_rainDown) ∈ UW := wU 335 (by decide +kernel) (by decide +kernel)
theorem wi_X2_rainDown : (Cond.instanceMethod yX2_rainDown) ∈ UW := wU 337 (by decide +kernel) (by decide +kernel)
theorem wc_X2_rainDown : (Cond.code yX2_rainDown cX2_rainDown 4 (Option.none : Option FieldType)) ∈ UW := wU 338 (by decide +kernel) (by decide +kernel)
theorem wm_X2_128 : (Cond.methodLink "RoofWater$Village" 128 yX0_runOff) ∈ UW := wU 339 (by decide +kernel) (by decide +kernel)
theorem wi_X0_runOff : (Cond.instanceMethod yX0_runOff) ∈ UW := wU 340 (by decide +kernel) (by decide +kernel)
theorem ws_X0_runOff : (Cond.selects "RoofWater$House" yX0_runOff yX0_runOff) ∈ UW := wU 341 (by decide +kernel) (by decide +kernel)
theorem wc_X0_runOff : (Cond.code yX0_runOff cX0_runOff 2 (Option.some FieldType.int)) ∈ UW := wU 342 (by decide +kernel) (by decide +kernel)
theorem wm_X2_131 : (Cond.methodLink "RoofWater$Village" 131 yX2_pour) ∈ UW := wU 343 (by decide +kernel) (by decide +kernel)
theorem wi_X2_pour : (Cond.instanceMethod yX2_pour) ∈ UW := wU 344 (by decide +kernel) (by decide +kernel)
theorem ws_X2_pour : (Cond.selects "RoofWater$Village" yX2_pour yX2_pour) ∈ UW := wU 345 (by decide +kernel) (by decide +kernel)
theorem wc_X2_pour : (Cond.code yX2_pour cX2_pour 6 (Option.some FieldType.int)) ∈ UW := wU 346 (by decide +kernel) (by decide +kernel)
theorem wm_X2_83 : (Cond.methodLink "RoofWater$Village" 83 yX2_hasHouse) ∈ UW := wU 347 (by decide +kernel) (by decide +kernel)
theorem wm_X2_90 : (Cond.methodLink "RoofWater$Village" 90 yX0_takeIn) ∈ UW := wU 348 (by decide +kernel) (by decide +kernel)
theorem wi_X0_takeIn : (Cond.instanceMethod yX0_takeIn) ∈ UW := wU 349 (by decide +kernel) (by decide +kernel)
theorem ws_X0_takeIn : (Cond.selects "RoofWater$House" yX0_takeIn yX0_takeIn) ∈ UW := wU 350 (by decide +kernel) (by decide +kernel)
theorem wc_X0_takeIn : (Cond.code yX0_takeIn cX0_takeIn 3 (Option.some FieldType.int)) ∈ UW := wU 351 (by decide +kernel) (by decide +kernel)
theorem wm_X0_42 : (Cond.methodLink "RoofWater$House" 42 yJ9_min_7cf53) ∈ UW := wU 352 (by decide +kernel) (by decide +kernel)
theorem wt_J9_min_7cf53 : (Cond.static yJ9_min_7cf53) ∈ UW := wU 353 (by decide +kernel) (by decide +kernel)
theorem wc_J9_min_7cf53 : (Cond.code yJ9_min_7cf53 cJ9_min_7cf53 2 (Option.some FieldType.int)) ∈ UW := wU 354 (by decide +kernel) (by decide +kernel)
theorem wm_X2_113 : (Cond.methodLink "RoofWater$Village" 113 yX0_drink) ∈ UW := wU 355 (by decide +kernel) (by decide +kernel)
theorem wi_X0_drink : (Cond.instanceMethod yX0_drink) ∈ UW := wU 356 (by decide +kernel) (by decide +kernel)
theorem ws_X0_drink : (Cond.selects "RoofWater$House" yX0_drink yX0_drink) ∈ UW := wU 357 (by decide +kernel) (by decide +kernel)
theorem wc_X0_drink : (Cond.code yX0_drink cX0_drink 3 (Option.some FieldType.int)) ∈ UW := wU 358 (by decide +kernel) (by decide +kernel)
theorem wm_X2_116 : (Cond.methodLink "RoofWater$Village" 116 yX0_waterGarden) ∈ UW := wU 359 (by decide +kernel) (by decide +kernel)
theorem wi_X0_waterGarden : (Cond.instanceMethod yX0_waterGarden) ∈ UW := wU 360 (by decide +kernel) (by decide +kernel)
theorem ws_X0_waterGarden : (Cond.selects "RoofWater$House" yX0_waterGarden yX0_waterGarden) ∈ UW := wU 361 (by decide +kernel) (by decide +kernel)
theorem wc_X0_waterGarden : (Cond.code yX0_waterGarden cX0_waterGarden 3 (Option.none : Option FieldType)) ∈ UW := wU 362 (by decide +kernel) (by decide +kernel)
theorem wm_X2_119 : (Cond.methodLink "RoofWater$Village" 119 yX2_openPipesFlow) ∈ UW := wU 363 (by decide +kernel) (by decide +kernel)
theorem wi_X2_openPipesFlow : (Cond.instanceMethod yX2_openPipesFlow) ∈ UW := wU 365 (by decide +kernel) (by decide +kernel)
theorem wc_X2_openPipesFlow : (Cond.code yX2_openPipesFlow cX2_openPipesFlow 3 (Option.none : Option FieldType)) ∈ UW := wU 366 (by decide +kernel) (by decide +kernel)
theorem wm_X2_135 : (Cond.methodLink "RoofWater$Village" 135 yX1_evenOut) ∈ UW := wU 367 (by decide +kernel) (by decide +kernel)
theorem wi_X1_evenOut : (Cond.instanceMethod yX1_evenOut) ∈ UW := wU 368 (by decide +kernel) (by decide +kernel)
theorem ws_X1_evenOut : (Cond.selects "RoofWater$Pipe" yX1_evenOut yX1_evenOut) ∈ UW := wU 369 (by decide +kernel) (by decide +kernel)
theorem wc_X1_evenOut : (Cond.code yX1_evenOut cX1_evenOut 6 (Option.none : Option FieldType)) ∈ UW := wU 370 (by decide +kernel) (by decide +kernel)
theorem wm_X1_37 : (Cond.methodLink "RoofWater$Pipe" 37 yJ9_min_7cf53) ∈ UW := wU 371 (by decide +kernel) (by decide +kernel)
theorem wm_X1_43 : (Cond.methodLink "RoofWater$Pipe" 43 yJ9_max_7cf53) ∈ UW := wU 372 (by decide +kernel) (by decide +kernel)
theorem wt_J9_max_7cf53 : (Cond.static yJ9_max_7cf53) ∈ UW := wU 373 (by decide +kernel) (by decide +kernel)
theorem wc_J9_max_7cf53 : (Cond.code yJ9_max_7cf53 cJ9_max_7cf53 2 (Option.some FieldType.int)) ∈ UW := wU 374 (by decide +kernel) (by decide +kernel)
theorem wm_X1_46 : (Cond.methodLink "RoofWater$Pipe" 46 yJ9_abs_0f7a4) ∈ UW := wU 375 (by decide +kernel) (by decide +kernel)
theorem wt_J9_abs_0f7a4 : (Cond.static yJ9_abs_0f7a4) ∈ UW := wU 376 (by decide +kernel) (by decide +kernel)
theorem wc_J9_abs_0f7a4 : (Cond.code yJ9_abs_0f7a4 cJ9_abs_0f7a4 1 (Option.some FieldType.int)) ∈ UW := wU 377 (by decide +kernel) (by decide +kernel)
theorem wm_X2_122 : (Cond.methodLink "RoofWater$Village" 122 yX3_leavesOn) ∈ UW := wU 378 (by decide +kernel) (by decide +kernel)
theorem wi_X3_leavesOn : (Cond.instanceMethod yX3_leavesOn) ∈ UW := wU 379 (by decide +kernel) (by decide +kernel)
theorem ws_X3_leavesOn : (Cond.selects "RoofWater$Weather" yX3_leavesOn yX3_leavesOn) ∈ UW := wU 380 (by decide +kernel) (by decide +kernel)
theorem wc_X3_leavesOn : (Cond.code yX3_leavesOn cX3_leavesOn 2 (Option.some FieldType.int)) ∈ UW := wU 381 (by decide +kernel) (by decide +kernel)
theorem wm_X2_125 : (Cond.methodLink "RoofWater$Village" 125 yX0_clog) ∈ UW := wU 382 (by decide +kernel) (by decide +kernel)
theorem wi_X0_clog : (Cond.instanceMethod yX0_clog) ∈ UW := wU 383 (by decide +kernel) (by decide +kernel)
theorem ws_X0_clog : (Cond.selects "RoofWater$House" yX0_clog yX0_clog) ∈ UW := wU 384 (by decide +kernel) (by decide +kernel)
theorem wc_X0_clog : (Cond.code yX0_clog cX0_clog 2 (Option.none : Option FieldType)) ∈ UW := wU 385 (by decide +kernel) (by decide +kernel)
theorem wm_L_118 : (Cond.methodLink "RoofWaterLaw" 118 yX4_count) ∈ UW := wU 386 (by decide +kernel) (by decide +kernel)
theorem wi_X4_count : (Cond.instanceMethod yX4_count) ∈ UW := wU 387 (by decide +kernel) (by decide +kernel)
theorem ws_X4_count : (Cond.selects "RoofWater" yX4_count yX4_count) ∈ UW := wU 388 (by decide +kernel) (by decide +kernel)
theorem wc_X4_count : (Cond.code yX4_count cX4_count 2 (Option.some FieldType.int)) ∈ UW := wU 389 (by decide +kernel) (by decide +kernel)
theorem wm_X4_125 : (Cond.methodLink "RoofWater" 125 yX2_total) ∈ UW := wU 390 (by decide +kernel) (by decide +kernel)
theorem wi_X2_total : (Cond.instanceMethod yX2_total) ∈ UW := wU 391 (by decide +kernel) (by decide +kernel)
theorem ws_X2_total : (Cond.selects "RoofWater$Village" yX2_total yX2_total) ∈ UW := wU 392 (by decide +kernel) (by decide +kernel)
theorem wc_X2_total : (Cond.code yX2_total cX2_total 2 (Option.some FieldType.int)) ∈ UW := wU 393 (by decide +kernel) (by decide +kernel)
theorem wm_X2_142 : (Cond.methodLink "RoofWater$Village" 142 yX2_allWater) ∈ UW := wU 394 (by decide +kernel) (by decide +kernel)
theorem wi_X2_allWater : (Cond.instanceMethod yX2_allWater) ∈ UW := wU 395 (by decide +kernel) (by decide +kernel)
theorem ws_X2_allWater : (Cond.selects "RoofWater$Village" yX2_allWater yX2_allWater) ∈ UW := wU 396 (by decide +kernel) (by decide +kernel)
theorem wc_X2_allWater : (Cond.code yX2_allWater cX2_allWater 3 (Option.some FieldType.int)) ∈ UW := wU 397 (by decide +kernel) (by decide +kernel)
theorem wm_X2_145 : (Cond.methodLink "RoofWater$Village" 145 yX2_allWatered) ∈ UW := wU 398 (by decide +kernel) (by decide +kernel)
theorem wi_X2_allWatered : (Cond.instanceMethod yX2_allWatered) ∈ UW := wU 400 (by decide +kernel) (by decide +kernel)
theorem wc_X2_allWatered : (Cond.code yX2_allWatered cX2_allWatered 3 (Option.some FieldType.int)) ∈ UW := wU 401 (by decide +kernel) (by decide +kernel)
theorem wm_X2_148 : (Cond.methodLink "RoofWater$Village" 148 yX2_openValves) ∈ UW := wU 402 (by decide +kernel) (by decide +kernel)
theorem wi_X2_openValves : (Cond.instanceMethod yX2_openValves) ∈ UW := wU 404 (by decide +kernel) (by decide +kernel)
theorem wc_X2_openValves : (Cond.code yX2_openValves cX2_openValves 3 (Option.some FieldType.int)) ∈ UW := wU 405 (by decide +kernel) (by decide +kernel)
theorem wm_L_115 : (Cond.methodLink "RoofWaterLaw" 115 yX4_foresee) ∈ UW := wU 406 (by decide +kernel) (by decide +kernel)
theorem wi_X4_foresee : (Cond.instanceMethod yX4_foresee) ∈ UW := wU 407 (by decide +kernel) (by decide +kernel)
theorem ws_X4_foresee : (Cond.selects "RoofWater" yX4_foresee yX4_foresee) ∈ UW := wU 408 (by decide +kernel) (by decide +kernel)
theorem wc_X4_foresee : (Cond.code yX4_foresee cX4_foresee 4 (Option.some FieldType.int)) ∈ UW := wU 409 (by decide +kernel) (by decide +kernel)
theorem wm_X4_128 : (Cond.methodLink "RoofWater" 128 yX2_copy) ∈ UW := wU 410 (by decide +kernel) (by decide +kernel)
theorem wi_X2_copy : (Cond.instanceMethod yX2_copy) ∈ UW := wU 411 (by decide +kernel) (by decide +kernel)
theorem ws_X2_copy : (Cond.selects "RoofWater$Village" yX2_copy yX2_copy) ∈ UW := wU 412 (by decide +kernel) (by decide +kernel)
theorem wc_X2_copy : (Cond.code yX2_copy cX2_copy 3 (Option.none : Option FieldType)) ∈ UW := wU 413 (by decide +kernel) (by decide +kernel)
theorem wm_X2_51 : (Cond.methodLink "RoofWater$Village" 51 yX0_copy) ∈ UW := wU 414 (by decide +kernel) (by decide +kernel)
theorem wi_X0_copy : (Cond.instanceMethod yX0_copy) ∈ UW := wU 415 (by decide +kernel) (by decide +kernel)
theorem ws_X0_copy : (Cond.selects "RoofWater$House" yX0_copy yX0_copy) ∈ UW := wU 416 (by decide +kernel) (by decide +kernel)
theorem wc_X0_copy : (Cond.code yX0_copy cX0_copy 2 (Option.none : Option FieldType)) ∈ UW := wU 417 (by decide +kernel) (by decide +kernel)
theorem wm_X2_55 : (Cond.methodLink "RoofWater$Village" 55 yX1_copy) ∈ UW := wU 418 (by decide +kernel) (by decide +kernel)
theorem wi_X1_copy : (Cond.instanceMethod yX1_copy) ∈ UW := wU 419 (by decide +kernel) (by decide +kernel)
theorem ws_X1_copy : (Cond.selects "RoofWater$Pipe" yX1_copy yX1_copy) ∈ UW := wU 420 (by decide +kernel) (by decide +kernel)
theorem wc_X1_copy : (Cond.code yX1_copy cX1_copy 2 (Option.none : Option FieldType)) ∈ UW := wU 421 (by decide +kernel) (by decide +kernel)
theorem wm_X4_132 : (Cond.methodLink "RoofWater" 132 yX2_allWater) ∈ UW := wU 422 (by decide +kernel) (by decide +kernel)
theorem wm_L_112 : (Cond.methodLink "RoofWaterLaw" 112 yX4_lasts) ∈ UW := wU 423 (by decide +kernel) (by decide +kernel)
theorem wi_X4_lasts : (Cond.instanceMethod yX4_lasts) ∈ UW := wU 424 (by decide +kernel) (by decide +kernel)
theorem ws_X4_lasts : (Cond.selects "RoofWater" yX4_lasts yX4_lasts) ∈ UW := wU 425 (by decide +kernel) (by decide +kernel)
theorem wc_X4_lasts : (Cond.code yX4_lasts cX4_lasts 2 (Option.some FieldType.int)) ∈ UW := wU 426 (by decide +kernel) (by decide +kernel)
theorem wm_X4_139 : (Cond.methodLink "RoofWater" 139 yX2_daysToThirst) ∈ UW := wU 427 (by decide +kernel) (by decide +kernel)
theorem wi_X2_daysToThirst : (Cond.instanceMethod yX2_daysToThirst) ∈ UW := wU 428 (by decide +kernel) (by decide +kernel)
theorem ws_X2_daysToThirst : (Cond.selects "RoofWater$Village" yX2_daysToThirst yX2_daysToThirst) ∈ UW := wU 429 (by decide +kernel) (by decide +kernel)
theorem wc_X2_daysToThirst : (Cond.code yX2_daysToThirst cX2_daysToThirst 6 (Option.some FieldType.int)) ∈ UW := wU 430 (by decide +kernel) (by decide +kernel)
theorem wm_L_127 : (Cond.methodLink "RoofWaterLaw" 127 yX6_pass) ∈ UW := wU 431 (by decide +kernel) (by decide +kernel)
theorem wi_X6_pass : (Cond.instanceMethod yX6_pass) ∈ UW := wU 432 (by decide +kernel) (by decide +kernel)
theorem ws_X6_pass : (Cond.selects "RoofWaterLaw$Sim" yX6_pass yX6_pass) ∈ UW := wU 433 (by decide +kernel) (by decide +kernel)
theorem wc_X6_pass : (Cond.code yX6_pass cX6_pass 12 (Option.some FieldType.int)) ∈ UW := wU 434 (by decide +kernel) (by decide +kernel)
theorem wm_X6_77 : (Cond.methodLink "RoofWaterLaw$Sim" 77 yX6_pour) ∈ UW := wU 435 (by decide +kernel) (by decide +kernel)
theorem wi_X6_pour : (Cond.instanceMethod yX6_pour) ∈ UW := wU 436 (by decide +kernel) (by decide +kernel)
theorem ws_X6_pour : (Cond.selects "RoofWaterLaw$Sim" yX6_pour yX6_pour) ∈ UW := wU 437 (by decide +kernel) (by decide +kernel)
theorem wc_X6_pour : (Cond.code yX6_pour cX6_pour 5 (Option.some FieldType.int)) ∈ UW := wU 438 (by decide +kernel) (by decide +kernel)
theorem wm_X6_71 : (Cond.methodLink "RoofWaterLaw$Sim" 71 yJ9_max_7cf53) ∈ UW := wU 439 (by decide +kernel) (by decide +kernel)
theorem wm_X6_98 : (Cond.methodLink "RoofWaterLaw$Sim" 98 yJ9_min_7cf53) ∈ UW := wU 440 (by decide +kernel) (by decide +kernel)
theorem wm_L_135 : (Cond.methodLink "RoofWaterLaw" 135 yX6_isSame) ∈ UW := wU 441 (by decide +kernel) (by decide +kernel)
theorem wi_X6_isSame : (Cond.instanceMethod yX6_isSame) ∈ UW := wU 442 (by decide +kernel) (by decide +kernel)
theorem ws_X6_isSame : (Cond.selects "RoofWaterLaw$Sim" yX6_isSame yX6_isSame) ∈ UW := wU 443 (by decide +kernel) (by decide +kernel)
theorem wc_X6_isSame : (Cond.code yX6_isSame cX6_isSame 10 (Option.some FieldType.boolean)) ∈ UW := wU 444 (by decide +kernel) (by decide +kernel)
theorem wm_X6_105 : (Cond.methodLink "RoofWaterLaw$Sim" 105 yX4_house) ∈ UW := wU 445 (by decide +kernel) (by decide +kernel)
theorem wm_X6_110 : (Cond.methodLink "RoofWaterLaw$Sim" 110 yX4_owes) ∈ UW := wU 446 (by decide +kernel) (by decide +kernel)
theorem wm_X6_113 : (Cond.methodLink "RoofWaterLaw$Sim" 113 yX4_pipe) ∈ UW := wU 447 (by decide +kernel) (by decide +kernel)
theorem wm_X6_116 : (Cond.methodLink "RoofWaterLaw$Sim" 116 yX6_all) ∈ UW := wU 448 (by decide +kernel) (by decide +kernel)
theorem wi_X6_all : (Cond.instanceMethod yX6_all) ∈ UW := wU 449 (by decide +kernel) (by decide +kernel)
theorem ws_X6_all : (Cond.selects "RoofWaterLaw$Sim" yX6_all yX6_all) ∈ UW := wU 450 (by decide +kernel) (by decide +kernel)
theorem wc_X6_all : (Cond.code yX6_all cX6_all 6 (Option.some FieldType.int)) ∈ UW := wU 451 (by decide +kernel) (by decide +kernel)
theorem wm_X6_122 : (Cond.methodLink "RoofWaterLaw$Sim" 122 yX4_count) ∈ UW := wU 452 (by decide +kernel) (by decide +kernel)
theorem wm_X6_125 : (Cond.methodLink "RoofWaterLaw$Sim" 125 yX4_full) ∈ UW := wU 453 (by decide +kernel) (by decide +kernel)
theorem wi_X4_full : (Cond.instanceMethod yX4_full) ∈ UW := wU 454 (by decide +kernel) (by decide +kernel)
theorem ws_X4_full : (Cond.selects "RoofWater" yX4_full yX4_full) ∈ UW := wU 455 (by decide +kernel) (by decide +kernel)
theorem wc_X4_full : (Cond.code yX4_full cX4_full 2 (Option.some FieldType.double)) ∈ UW := wU 456 (by decide +kernel) (by decide +kernel)
theorem wm_X4_148 : (Cond.methodLink "RoofWater" 148 yX2_allHolds) ∈ UW := wU 457 (by decide +kernel) (by decide +kernel)
theorem wi_X2_allHolds : (Cond.instanceMethod yX2_allHolds) ∈ UW := wU 458 (by decide +kernel) (by decide +kernel)
theorem ws_X2_allHolds : (Cond.selects "RoofWater$Village" yX2_allHolds yX2_allHolds) ∈ UW := wU 459 (by decide +kernel) (by decide +kernel)
theorem wc_X2_allHolds : (Cond.code yX2_allHolds cX2_allHolds 3 (Option.some FieldType.int)) ∈ UW := wU 460 (by decide +kernel) (by decide +kernel)
theorem wm_L_18 : (Cond.methodLink "RoofWaterLaw" 18 yL_below) ∈ UW := wU 461 (by decide +kernel) (by decide +kernel)
theorem wt_L_below : (Cond.static yL_below) ∈ UW := wU 462 (by decide +kernel) (by decide +kernel)
theorem wc_L_below : (Cond.code yL_below cL_below 2 (Option.some FieldType.int)) ∈ UW := wU 463 (by decide +kernel) (by decide +kernel)
theorem wq_L_7 : (Cond.constant "RoofWaterLaw" 7 (2147483647 : Int32)) ∈ UW := wU 464 (by decide +kernel) (by decide +kernel)
theorem wm_L_12 : (Cond.methodLink "RoofWaterLaw" 12 yL_cell) ∈ UW := wU 465 (by decide +kernel) (by decide +kernel)
theorem wt_L_cell : (Cond.static yL_cell) ∈ UW := wU 466 (by decide +kernel) (by decide +kernel)
theorem wc_L_cell : (Cond.code yL_cell cL_cell 2 (Option.some FieldType.int)) ∈ UW := wU 467 (by decide +kernel) (by decide +kernel)
theorem wq_L_8 : (Cond.constant "RoofWaterLaw" 8 (790386105 : Int32)) ∈ UW := wU 468 (by decide +kernel) (by decide +kernel)
theorem wm_L_95 : (Cond.methodLink "RoofWaterLaw" 95 yL_build) ∈ UW := wU 469 (by decide +kernel) (by decide +kernel)
theorem wt_L_build : (Cond.static yL_build) ∈ UW := wU 470 (by decide +kernel) (by decide +kernel)
theorem wc_L_build : (Cond.code yL_build cL_build 9 (Option.some (FieldType.object "RoofWaterLaw$Sim"))) ∈ UW := wU 471 (by decide +kernel) (by decide +kernel)
theorem wk_L_9 : (Cond.classLink "RoofWaterLaw" 9 "RoofWaterLaw$Sim") ∈ UW := wU 472 (by decide +kernel) (by decide +kernel)
theorem wn_X6 : (Cond.instantiable "RoofWaterLaw$Sim" 9) ∈ UW := wU 473 (by decide +kernel) (by decide +kernel)
theorem wi_X6_init : (Cond.instanceMethod yX6_init) ∈ UW := wU 475 (by decide +kernel) (by decide +kernel)
theorem wc_X6_init : (Cond.code yX6_init cX6_init 1 (Option.none : Option FieldType)) ∈ UW := wU 476 (by decide +kernel) (by decide +kernel)
theorem wm_X6_1 : (Cond.methodLink "RoofWaterLaw$Sim" 1 ({ cls := "java/lang/Object", name := "<init>", desc := "()V" } : MethodName)) ∈ UW := wU 477 (by decide +kernel) (by decide +kernel)
theorem wk_X6_7 : (Cond.classLink "RoofWaterLaw$Sim" 7 "[[I") ∈ UW := wU 478 (by decide +kernel) (by decide +kernel)
theorem wk_X6_14 : (Cond.classLink "RoofWaterLaw$Sim" 14 "RoofWaterLaw$House") ∈ UW := wU 480 (by decide +kernel) (by decide +kernel)
theorem wk_X6_20 : (Cond.classLink "RoofWaterLaw$Sim" 20 "[I") ∈ UW := wU 482 (by decide +kernel) (by decide +kernel)
theorem wf_X6_9 : (Cond.fieldLink "RoofWaterLaw$Sim" 9 "RoofWaterLaw$Sim" "weather" "[[I") ∈ UW := wU 483 (by decide +kernel) (by decide +kernel)
theorem wf_L_22 : (Cond.fieldLink "RoofWaterLaw" 22 "RoofWaterLaw$Sim" "weather" "[[I") ∈ UW := wU 484 (by decide +kernel) (by decide +kernel)
theorem wf_X6_16 : (Cond.fieldLink "RoofWaterLaw$Sim" 16 "RoofWaterLaw$Sim" "houses" "[LRoofWaterLaw$House;") ∈ UW := wU 485 (by decide +kernel) (by decide +kernel)
theorem wf_L_43 : (Cond.fieldLink "RoofWaterLaw" 43 "RoofWaterLaw$Sim" "houses" "[LRoofWaterLaw$House;") ∈ UW := wU 486 (by decide +kernel) (by decide +kernel)
theorem wf_X6_22 : (Cond.fieldLink "RoofWaterLaw$Sim" 22 "RoofWaterLaw$Sim" "pipes" "[[I") ∈ UW := wU 487 (by decide +kernel) (by decide +kernel)
theorem wf_L_81 : (Cond.fieldLink "RoofWaterLaw" 81 "RoofWaterLaw$Sim" "pipes" "[[I") ∈ UW := wU 488 (by decide +kernel) (by decide +kernel)
theorem wf_X6_25 : (Cond.fieldLink "RoofWaterLaw$Sim" 25 "RoofWaterLaw$Sim" "from" "[[I") ∈ UW := wU 489 (by decide +kernel) (by decide +kernel)
theorem wf_L_121 : (Cond.fieldLink "RoofWaterLaw" 121 "RoofWaterLaw$Sim" "day" "I") ∈ UW := wU 490 (by decide +kernel) (by decide +kernel)
theorem wf_X6_37 : (Cond.fieldLink "RoofWaterLaw$Sim" 37 "RoofWaterLaw$Sim" "day" "I") ∈ UW := wU 491 (by decide +kernel) (by decide +kernel)
theorem wf_X6_83 : (Cond.fieldLink "RoofWaterLaw$Sim" 83 "RoofWaterLaw$Sim" "roofs" "I") ∈ UW := wU 492 (by decide +kernel) (by decide +kernel)
theorem wf_X6_41 : (Cond.fieldLink "RoofWaterLaw$Sim" 41 "RoofWaterLaw$Sim" "lost" "I") ∈ UW := wU 493 (by decide +kernel) (by decide +kernel)
theorem wf_X6_92 : (Cond.fieldLink "RoofWaterLaw$Sim" 92 "RoofWaterLaw$Sim" "drunk" "I") ∈ UW := wU 494 (by decide +kernel) (by decide +kernel)
theorem wf_L_66 : (Cond.fieldLink "RoofWaterLaw" 66 "RoofWaterLaw$Sim" "carts" "I") ∈ UW := wU 495 (by decide +kernel) (by decide +kernel)
theorem wf_X6_119 : (Cond.fieldLink "RoofWaterLaw$Sim" 119 "RoofWaterLaw$Sim" "carts" "I") ∈ UW := wU 496 (by decide +kernel) (by decide +kernel)
theorem wl_X6_weather : (Cond.lays "RoofWaterLaw$Sim" "RoofWaterLaw$Sim" "weather" "[[I") ∈ UW := wU 497 (by decide +kernel) (by decide +kernel)
theorem wl_X6_houses : (Cond.lays "RoofWaterLaw$Sim" "RoofWaterLaw$Sim" "houses" "[LRoofWaterLaw$House;") ∈ UW := wU 499 (by decide +kernel) (by decide +kernel)
theorem wl_X6_pipes : (Cond.lays "RoofWaterLaw$Sim" "RoofWaterLaw$Sim" "pipes" "[[I") ∈ UW := wU 501 (by decide +kernel) (by decide +kernel)
theorem wl_X6_from : (Cond.lays "RoofWaterLaw$Sim" "RoofWaterLaw$Sim" "from" "[[I") ∈ UW := wU 503 (by decide +kernel) (by decide +kernel)
theorem wl_X6_day : (Cond.lays "RoofWaterLaw$Sim" "RoofWaterLaw$Sim" "day" "I") ∈ UW := wU 505 (by decide +kernel) (by decide +kernel)
theorem wl_X6_roofs : (Cond.lays "RoofWaterLaw$Sim" "RoofWaterLaw$Sim" "roofs" "I") ∈ UW := wU 507 (by decide +kernel) (by decide +kernel)
theorem wl_X6_lost : (Cond.lays "RoofWaterLaw$Sim" "RoofWaterLaw$Sim" "lost" "I") ∈ UW := wU 509 (by decide +kernel) (by decide +kernel)
theorem wl_X6_drunk : (Cond.lays "RoofWaterLaw$Sim" "RoofWaterLaw$Sim" "drunk" "I") ∈ UW := wU 511 (by decide +kernel) (by decide +kernel)
theorem wl_X6_carts : (Cond.lays "RoofWaterLaw$Sim" "RoofWaterLaw$Sim" "carts" "I") ∈ UW := wU 513 (by decide +kernel) (by decide +kernel)
theorem wm_L_26 : (Cond.methodLink "RoofWaterLaw" 26 yX4_setWeather) ∈ UW := wU 516 (by decide +kernel) (by decide +kernel)
theorem wi_X4_setWeather : (Cond.instanceMethod yX4_setWeather) ∈ UW := wU 517 (by decide +kernel) (by decide +kernel)
theorem ws_X4_setWeather : (Cond.selects "RoofWater" yX4_setWeather yX4_setWeather) ∈ UW := wU 518 (by decide +kernel) (by decide +kernel)
theorem wc_X4_setWeather : (Cond.code yX4_setWeather cX4_setWeather 5 (Option.some FieldType.int)) ∈ UW := wU 519 (by decide +kernel) (by decide +kernel)
theorem wm_X4_39 : (Cond.methodLink "RoofWater" 39 yX3_code) ∈ UW := wU 520 (by decide +kernel) (by decide +kernel)
theorem wi_X3_code : (Cond.instanceMethod yX3_code) ∈ UW := wU 521 (by decide +kernel) (by decide +kernel)
theorem ws_X3_code : (Cond.selects "RoofWater$Weather" yX3_code yX3_code) ∈ UW := wU 522 (by decide +kernel) (by decide +kernel)
theorem wc_X3_code : (Cond.code yX3_code cX3_code 2 (Option.some FieldType.int)) ∈ UW := wU 523 (by decide +kernel) (by decide +kernel)
theorem wm_X4_43 : (Cond.methodLink "RoofWater" 43 yX3_change) ∈ UW := wU 524 (by decide +kernel) (by decide +kernel)
theorem wi_X3_change : (Cond.instanceMethod yX3_change) ∈ UW := wU 525 (by decide +kernel) (by decide +kernel)
theorem ws_X3_change : (Cond.selects "RoofWater$Weather" yX3_change yX3_change) ∈ UW := wU 526 (by decide +kernel) (by decide +kernel)
theorem wc_X3_change : (Cond.code yX3_change cX3_change 4 (Option.none : Option FieldType)) ∈ UW := wU 527 (by decide +kernel) (by decide +kernel)
theorem wm_L_32 : (Cond.methodLink "RoofWaterLaw" 32 yX4_build) ∈ UW := wU 528 (by decide +kernel) (by decide +kernel)
theorem wi_X4_build : (Cond.instanceMethod yX4_build) ∈ UW := wU 529 (by decide +kernel) (by decide +kernel)
theorem ws_X4_build : (Cond.selects "RoofWater" yX4_build yX4_build) ∈ UW := wU 530 (by decide +kernel) (by decide +kernel)
theorem wc_X4_build : (Cond.code yX4_build cX4_build 5 (Option.some FieldType.int)) ∈ UW := wU 531 (by decide +kernel) (by decide +kernel)
theorem wm_X4_51 : (Cond.methodLink "RoofWater" 51 yX4_needState) ∈ UW := wU 532 (by decide +kernel) (by decide +kernel)
theorem wt_X4_needState : (Cond.static yX4_needState) ∈ UW := wU 533 (by decide +kernel) (by decide +kernel)
theorem wc_X4_needState : (Cond.code yX4_needState cX4_needState 1 (Option.none : Option FieldType)) ∈ UW := wU 534 (by decide +kernel) (by decide +kernel)
theorem wk_X4_188 : (Cond.classLink "RoofWater" 188 "java/lang/IllegalStateException") ∈ UW := wU 535 (by decide +kernel) (by decide +kernel)
theorem wn_IllegalStateException : (Cond.instantiable "java/lang/IllegalStateException" 6) ∈ UW := wU 536 (by decide +kernel) (by decide +kernel)
theorem ws_java_lang_Throwable_fillInStackTrace_b538 : (Cond.selects "java/lang/IllegalStateException" ({ cls := "java/lang/Throwable", name := "fillInStackTrace", desc := "(I)Ljava/lang/Throwable;" } : MethodName) ({ cls := "java/lang/Throwable", name := "fillInStackTrace", desc := "(I)Ljava/lang/Throwable;" } : MethodName)) ∈ UW := wU 538 (by decide +kernel) (by decide +kernel)
theorem w9_539 : (Cond.lays "java/lang/IllegalStateException" "java/lang/Throwable" "cause" "Ljava/lang/Throwable;") ∈ UW := wU 539 (by decide +kernel) (by decide +kernel)
theorem w9_540 : (Cond.lays "java/lang/IllegalStateException" "java/lang/Throwable" "stackTrace" "[Ljava/lang/StackTraceElement;") ∈ UW := wU 540 (by decide +kernel) (by decide +kernel)
theorem w9_541 : (Cond.lays "java/lang/IllegalStateException" "java/lang/Throwable" "suppressedExceptions" "Ljava/util/List;") ∈ UW := wU 541 (by decide +kernel) (by decide +kernel)
theorem w9_542 : (Cond.lays "java/lang/IllegalStateException" "java/lang/Throwable" "detailMessage" "Ljava/lang/String;") ∈ UW := wU 542 (by decide +kernel) (by decide +kernel)
theorem w9_543 : (Cond.lays "java/lang/IllegalStateException" "java/lang/Throwable" "backtrace" "Ljava/lang/Object;") ∈ UW := wU 543 (by decide +kernel) (by decide +kernel)
theorem wm_X4_192 : (Cond.methodLink "RoofWater" 192 ({ cls := "java/lang/IllegalStateException", name := "<init>", desc := "(Ljava/lang/String;)V" } : MethodName)) ∈ UW := wU 545 (by decide +kernel) (by decide +kernel)
theorem wi_IllegalStateException__init_ : (Cond.instanceMethod ({ cls := "java/lang/IllegalStateException", name := "<init>", desc := "(Ljava/lang/String;)V" } : MethodName)) ∈ UW := wU 546 (by decide +kernel) (by decide +kernel)
theorem wc_IllegalStateException__init_ : (Cond.code ({ cls := "java/lang/IllegalStateException", name := "<init>", desc := "(Ljava/lang/String;)V" } : MethodName) prog_12_method_2_code 2 (Option.none : Option FieldType)) ∈ UW := wU 547 (by decide +kernel) (by decide +kernel)
theorem w9_548 : (Cond.methodLink "java/lang/IllegalStateException" 7 ({ cls := "java/lang/RuntimeException", name := "<init>", desc := "(Ljava/lang/String;)V" } : MethodName)) ∈ UW := wU 548 (by decide +kernel) (by decide +kernel)
theorem w9_549 : (Cond.lays "java/lang/IllegalStateException" "java/lang/Throwable" "depth" "I") ∈ UW := wU 549 (by decide +kernel) (by decide +kernel)
theorem wm_X4_54 : (Cond.methodLink "RoofWater" 54 yX2_addHouse) ∈ UW := wU 551 (by decide +kernel) (by decide +kernel)
theorem wi_X2_addHouse : (Cond.instanceMethod yX2_addHouse) ∈ UW := wU 552 (by decide +kernel) (by decide +kernel)
theorem ws_X2_addHouse : (Cond.selects "RoofWater$Village" yX2_addHouse yX2_addHouse) ∈ UW := wU 553 (by decide +kernel) (by decide +kernel)
theorem wc_X2_addHouse : (Cond.code yX2_addHouse cX2_addHouse 6 (Option.some FieldType.int)) ∈ UW := wU 554 (by decide +kernel) (by decide +kernel)
theorem wm_L_36 : (Cond.methodLink "RoofWaterLaw" 36 yX6_build) ∈ UW := wU 555 (by decide +kernel) (by decide +kernel)
theorem wi_X6_build : (Cond.instanceMethod yX6_build) ∈ UW := wU 556 (by decide +kernel) (by decide +kernel)
theorem ws_X6_build : (Cond.selects "RoofWaterLaw$Sim" yX6_build yX6_build) ∈ UW := wU 557 (by decide +kernel) (by decide +kernel)
theorem wc_X6_build : (Cond.code yX6_build cX6_build 7 (Option.none : Option FieldType)) ∈ UW := wU 558 (by decide +kernel) (by decide +kernel)
theorem wn_X5 : (Cond.instantiable "RoofWaterLaw$House" 10) ∈ UW := wU 559 (by decide +kernel) (by decide +kernel)
theorem wi_X5_init : (Cond.instanceMethod yX5_init) ∈ UW := wU 561 (by decide +kernel) (by decide +kernel)
theorem wc_X5_init : (Cond.code yX5_init cX5_init 1 (Option.none : Option FieldType)) ∈ UW := wU 562 (by decide +kernel) (by decide +kernel)
theorem wm_X5_1 : (Cond.methodLink "RoofWaterLaw$House" 1 ({ cls := "java/lang/Object", name := "<init>", desc := "()V" } : MethodName)) ∈ UW := wU 563 (by decide +kernel) (by decide +kernel)
theorem wf_X6_45 : (Cond.fieldLink "RoofWaterLaw$Sim" 45 "RoofWaterLaw$House" "roof" "I") ∈ UW := wU 564 (by decide +kernel) (by decide +kernel)
theorem wf_X6_48 : (Cond.fieldLink "RoofWaterLaw$Sim" 48 "RoofWaterLaw$House" "holds" "I") ∈ UW := wU 565 (by decide +kernel) (by decide +kernel)
theorem wf_X6_68 : (Cond.fieldLink "RoofWaterLaw$Sim" 68 "RoofWaterLaw$House" "water" "I") ∈ UW := wU 566 (by decide +kernel) (by decide +kernel)
theorem wf_X6_51 : (Cond.fieldLink "RoofWaterLaw$Sim" 51 "RoofWaterLaw$House" "people" "I") ∈ UW := wU 567 (by decide +kernel) (by decide +kernel)
theorem wf_L_88 : (Cond.fieldLink "RoofWaterLaw" 88 "RoofWaterLaw$House" "people" "I") ∈ UW := wU 568 (by decide +kernel) (by decide +kernel)
theorem wf_X6_54 : (Cond.fieldLink "RoofWaterLaw$Sim" 54 "RoofWaterLaw$House" "garden" "I") ∈ UW := wU 569 (by decide +kernel) (by decide +kernel)
theorem wf_L_75 : (Cond.fieldLink "RoofWaterLaw" 75 "RoofWaterLaw$House" "clog" "I") ∈ UW := wU 570 (by decide +kernel) (by decide +kernel)
theorem wf_X6_80 : (Cond.fieldLink "RoofWaterLaw$Sim" 80 "RoofWaterLaw$House" "clog" "I") ∈ UW := wU 571 (by decide +kernel) (by decide +kernel)
theorem wf_X5_7 : (Cond.fieldLink "RoofWaterLaw$House" 7 "RoofWaterLaw$House" "next" "I") ∈ UW := wU 572 (by decide +kernel) (by decide +kernel)
theorem wf_L_47 : (Cond.fieldLink "RoofWaterLaw" 47 "RoofWaterLaw$House" "next" "I") ∈ UW := wU 573 (by decide +kernel) (by decide +kernel)
theorem wf_X6_57 : (Cond.fieldLink "RoofWaterLaw$Sim" 57 "RoofWaterLaw$House" "next" "I") ∈ UW := wU 574 (by decide +kernel) (by decide +kernel)
theorem wf_X6_86 : (Cond.fieldLink "RoofWaterLaw$Sim" 86 "RoofWaterLaw$House" "thirst" "I") ∈ UW := wU 575 (by decide +kernel) (by decide +kernel)
theorem wf_X6_95 : (Cond.fieldLink "RoofWaterLaw$Sim" 95 "RoofWaterLaw$House" "got" "I") ∈ UW := wU 576 (by decide +kernel) (by decide +kernel)
theorem wf_X6_89 : (Cond.fieldLink "RoofWaterLaw$Sim" 89 "RoofWaterLaw$House" "dry" "I") ∈ UW := wU 577 (by decide +kernel) (by decide +kernel)
theorem wl_X5_roof : (Cond.lays "RoofWaterLaw$House" "RoofWaterLaw$House" "roof" "I") ∈ UW := wU 578 (by decide +kernel) (by decide +kernel)
theorem wl_X5_holds : (Cond.lays "RoofWaterLaw$House" "RoofWaterLaw$House" "holds" "I") ∈ UW := wU 580 (by decide +kernel) (by decide +kernel)
theorem wl_X5_water : (Cond.lays "RoofWaterLaw$House" "RoofWaterLaw$House" "water" "I") ∈ UW := wU 582 (by decide +kernel) (by decide +kernel)
theorem wl_X5_people : (Cond.lays "RoofWaterLaw$House" "RoofWaterLaw$House" "people" "I") ∈ UW := wU 584 (by decide +kernel) (by decide +kernel)
theorem wl_X5_garden : (Cond.lays "RoofWaterLaw$House" "RoofWaterLaw$House" "garden" "I") ∈ UW := wU 586 (by decide +kernel) (by decide +kernel)
theorem wl_X5_clog : (Cond.lays "RoofWaterLaw$House" "RoofWaterLaw$House" "clog" "I") ∈ UW := wU 588 (by decide +kernel) (by decide +kernel)
theorem wl_X5_next : (Cond.lays "RoofWaterLaw$House" "RoofWaterLaw$House" "next" "I") ∈ UW := wU 590 (by decide +kernel) (by decide +kernel)
theorem wl_X5_thirst : (Cond.lays "RoofWaterLaw$House" "RoofWaterLaw$House" "thirst" "I") ∈ UW := wU 592 (by decide +kernel) (by decide +kernel)
theorem wl_X5_got : (Cond.lays "RoofWaterLaw$House" "RoofWaterLaw$House" "got" "I") ∈ UW := wU 594 (by decide +kernel) (by decide +kernel)
theorem wl_X5_dry : (Cond.lays "RoofWaterLaw$House" "RoofWaterLaw$House" "dry" "I") ∈ UW := wU 596 (by decide +kernel) (by decide +kernel)
theorem wm_L_39 : (Cond.methodLink "RoofWaterLaw" 39 yX6_leads) ∈ UW := wU 599 (by decide +kernel) (by decide +kernel)
theorem wi_X6_leads : (Cond.instanceMethod yX6_leads) ∈ UW := wU 600 (by decide +kernel) (by decide +kernel)
theorem ws_X6_leads : (Cond.selects "RoofWaterLaw$Sim" yX6_leads yX6_leads) ∈ UW := wU 601 (by decide +kernel) (by decide +kernel)
theorem wc_X6_leads : (Cond.code yX6_leads cX6_leads 3 (Option.some FieldType.boolean)) ∈ UW := wU 602 (by decide +kernel) (by decide +kernel)
theorem wm_X6_60 : (Cond.methodLink "RoofWaterLaw$Sim" 60 yX6_leads) ∈ UW := wU 603 (by decide +kernel) (by decide +kernel)
theorem wm_L_53 : (Cond.methodLink "RoofWaterLaw" 53 yX4_chain) ∈ UW := wU 604 (by decide +kernel) (by decide +kernel)
theorem wi_X4_chain : (Cond.instanceMethod yX4_chain) ∈ UW := wU 605 (by decide +kernel) (by decide +kernel)
theorem ws_X4_chain : (Cond.selects "RoofWater" yX4_chain yX4_chain) ∈ UW := wU 606 (by decide +kernel) (by decide +kernel)
theorem wc_X4_chain : (Cond.code yX4_chain cX4_chain 3 (Option.some FieldType.int)) ∈ UW := wU 607 (by decide +kernel) (by decide +kernel)
theorem wm_X4_66 : (Cond.methodLink "RoofWater" 66 yX2_flowsThrough) ∈ UW := wU 608 (by decide +kernel) (by decide +kernel)
theorem wi_X2_flowsThrough : (Cond.instanceMethod yX2_flowsThrough) ∈ UW := wU 609 (by decide +kernel) (by decide +kernel)
theorem ws_X2_flowsThrough : (Cond.selects "RoofWater$Village" yX2_flowsThrough yX2_flowsThrough) ∈ UW := wU 610 (by decide +kernel) (by decide +kernel)
theorem wc_X2_flowsThrough : (Cond.code yX2_flowsThrough cX2_flowsThrough 5 (Option.some FieldType.boolean)) ∈ UW := wU 611 (by decide +kernel) (by decide +kernel)
theorem wm_X4_79 : (Cond.methodLink "RoofWater" 79 yX2_chainLength) ∈ UW := wU 612 (by decide +kernel) (by decide +kernel)
theorem wi_X2_chainLength : (Cond.instanceMethod yX2_chainLength) ∈ UW := wU 613 (by decide +kernel) (by decide +kernel)
theorem ws_X2_chainLength : (Cond.selects "RoofWater$Village" yX2_chainLength yX2_chainLength) ∈ UW := wU 614 (by decide +kernel) (by decide +kernel)
theorem wc_X2_chainLength : (Cond.code yX2_chainLength cX2_chainLength 4 (Option.some FieldType.int)) ∈ UW := wU 615 (by decide +kernel) (by decide +kernel)
theorem wm_L_56 : (Cond.methodLink "RoofWaterLaw" 56 yX6_behind) ∈ UW := wU 616 (by decide +kernel) (by decide +kernel)
theorem wi_X6_behind : (Cond.instanceMethod yX6_behind) ∈ UW := wU 617 (by decide +kernel) (by decide +kernel)
theorem ws_X6_behind : (Cond.selects "RoofWaterLaw$Sim" yX6_behind yX6_behind) ∈ UW := wU 618 (by decide +kernel) (by decide +kernel)
theorem wc_X6_behind : (Cond.code yX6_behind cX6_behind 2 (Option.some FieldType.int)) ∈ UW := wU 619 (by decide +kernel) (by decide +kernel)
theorem wm_X6_64 : (Cond.methodLink "RoofWaterLaw$Sim" 64 yX6_behind) ∈ UW := wU 620 (by decide +kernel) (by decide +kernel)
theorem wm_L_60 : (Cond.methodLink "RoofWaterLaw" 60 yX4_lay) ∈ UW := wU 621 (by decide +kernel) (by decide +kernel)
theorem wi_X4_lay : (Cond.instanceMethod yX4_lay) ∈ UW := wU 622 (by decide +kernel) (by decide +kernel)
theorem ws_X4_lay : (Cond.selects "RoofWater" yX4_lay yX4_lay) ∈ UW := wU 623 (by decide +kernel) (by decide +kernel)
theorem wc_X4_lay : (Cond.code yX4_lay cX4_lay 4 (Option.some FieldType.int)) ∈ UW := wU 624 (by decide +kernel) (by decide +kernel)
theorem wm_X4_85 : (Cond.methodLink "RoofWater" 85 yX2_addPipe) ∈ UW := wU 625 (by decide +kernel) (by decide +kernel)
theorem wi_X2_addPipe : (Cond.instanceMethod yX2_addPipe) ∈ UW := wU 626 (by decide +kernel) (by decide +kernel)
theorem ws_X2_addPipe : (Cond.selects "RoofWater$Village" yX2_addPipe yX2_addPipe) ∈ UW := wU 627 (by decide +kernel) (by decide +kernel)
theorem wc_X2_addPipe : (Cond.code yX2_addPipe cX2_addPipe 5 (Option.some FieldType.int)) ∈ UW := wU 628 (by decide +kernel) (by decide +kernel)
theorem wm_L_63 : (Cond.methodLink "RoofWaterLaw" 63 yX6_lay) ∈ UW := wU 629 (by decide +kernel) (by decide +kernel)
theorem wi_X6_lay : (Cond.instanceMethod yX6_lay) ∈ UW := wU 630 (by decide +kernel) (by decide +kernel)
theorem ws_X6_lay : (Cond.selects "RoofWaterLaw$Sim" yX6_lay yX6_lay) ∈ UW := wU 631 (by decide +kernel) (by decide +kernel)
theorem wc_X6_lay : (Cond.code yX6_lay cX6_lay 6 (Option.none : Option FieldType)) ∈ UW := wU 632 (by decide +kernel) (by decide +kernel)
theorem wm_L_98 : (Cond.methodLink "RoofWaterLaw" 98 yL_act) ∈ UW := wU 633 (by decide +kernel) (by decide +kernel)
theorem wt_L_act : (Cond.static yL_act) ∈ UW := wU 634 (by decide +kernel) (by decide +kernel)
theorem wc_L_act : (Cond.code yL_act cL_act 14 (Option.some FieldType.boolean)) ∈ UW := wU 635 (by decide +kernel) (by decide +kernel)
theorem wm_L_69 : (Cond.methodLink "RoofWaterLaw" 69 yX4_cart) ∈ UW := wU 636 (by decide +kernel) (by decide +kernel)
theorem wi_X4_cart : (Cond.instanceMethod yX4_cart) ∈ UW := wU 637 (by decide +kernel) (by decide +kernel)
theorem ws_X4_cart : (Cond.selects "RoofWater" yX4_cart yX4_cart) ∈ UW := wU 638 (by decide +kernel) (by decide +kernel)
theorem wc_X4_cart : (Cond.code yX4_cart cX4_cart 3 (Option.some FieldType.int)) ∈ UW := wU 639 (by decide +kernel) (by decide +kernel)
theorem wm_X4_108 : (Cond.methodLink "RoofWater" 108 yX2_pour) ∈ UW := wU 640 (by decide +kernel) (by decide +kernel)
theorem wm_L_72 : (Cond.methodLink "RoofWaterLaw" 72 yX6_pour) ∈ UW := wU 641 (by decide +kernel) (by decide +kernel)
theorem wm_L_78 : (Cond.methodLink "RoofWaterLaw" 78 yX4_clean) ∈ UW := wU 642 (by decide +kernel) (by decide +kernel)
theorem wi_X4_clean : (Cond.instanceMethod yX4_clean) ∈ UW := wU 643 (by decide +kernel) (by decide +kernel)
theorem ws_X4_clean : (Cond.selects "RoofWater" yX4_clean yX4_clean) ∈ UW := wU 644 (by decide +kernel) (by decide +kernel)
theorem wc_X4_clean : (Cond.code yX4_clean cX4_clean 3 (Option.some FieldType.int)) ∈ UW := wU 645 (by decide +kernel) (by decide +kernel)
theorem wm_L_84 : (Cond.methodLink "RoofWaterLaw" 84 yX4_turn) ∈ UW := wU 646 (by decide +kernel) (by decide +kernel)
theorem wi_X4_turn : (Cond.instanceMethod yX4_turn) ∈ UW := wU 647 (by decide +kernel) (by decide +kernel)
theorem ws_X4_turn : (Cond.selects "RoofWater" yX4_turn yX4_turn) ∈ UW := wU 648 (by decide +kernel) (by decide +kernel)
theorem wc_X4_turn : (Cond.code yX4_turn cX4_turn 4 (Option.some FieldType.boolean)) ∈ UW := wU 649 (by decide +kernel) (by decide +kernel)
theorem wm_L_91 : (Cond.methodLink "RoofWaterLaw" 91 yX4_setPeople) ∈ UW := wU 650 (by decide +kernel) (by decide +kernel)
theorem wi_X4_setPeople : (Cond.instanceMethod yX4_setPeople) ∈ UW := wU 651 (by decide +kernel) (by decide +kernel)
theorem ws_X4_setPeople : (Cond.selects "RoofWater" yX4_setPeople yX4_setPeople) ∈ UW := wU 652 (by decide +kernel) (by decide +kernel)
theorem wc_X4_setPeople : (Cond.code yX4_setPeople cX4_setPeople 4 (Option.some FieldType.int)) ∈ UW := wU 653 (by decide +kernel) (by decide +kernel)
theorem wm_L_130 : (Cond.methodLink "RoofWaterLaw" 130 yJ9_min_7cf53) ∈ UW := wU 654 (by decide +kernel) (by decide +kernel)
theorem wk_L_102 : (Cond.classLink "RoofWaterLaw" 102 "[[I") ∈ UW := wU 655 (by decide +kernel) (by decide +kernel)
theorem w9_656 : (Cond.sameMethod "java/lang/Throwable" "java/lang/Throwable" "fillInStackTrace" "(I)Ljava/lang/Throwable;") ∈ UW := wU 656 (by decide +kernel) (by decide +kernel)
theorem ws_X4_needHouse : Cond.selects RX4 yX4_needHouse yX4_needHouse ∈ UW := wV 0 (by decide +kernel) (by decide +kernel)
theorem ws_X4_needPipe : Cond.selects RX4 yX4_needPipe yX4_needPipe ∈ UW := wV 2 (by decide +kernel) (by decide +kernel)
theorem ws_X2_allThirst : Cond.selects RX2 yX2_allThirst yX2_allThirst ∈ UW := wV 3 (by decide +kernel) (by decide +kernel)
theorem ws_X2_liveDay : Cond.selects RX2 yX2_liveDay yX2_liveDay ∈ UW := wV 4 (by decide +kernel) (by decide +kernel)
theorem ws_X2_rainDown : Cond.selects RX2 yX2_rainDown yX2_rainDown ∈ UW := wV 5 (by decide +kernel) (by decide +kernel)
theorem ws_X2_openPipesFlow : Cond.selects RX2 yX2_openPipesFlow yX2_openPipesFlow ∈ UW := wV 6 (by decide +kernel) (by decide +kernel)
theorem ws_X2_allWatered : Cond.selects RX2 yX2_allWatered yX2_allWatered ∈ UW := wV 7 (by decide +kernel) (by decide +kernel)
theorem ws_X2_openValves : Cond.selects RX2 yX2_openValves yX2_openValves ∈ UW := wV 8 (by decide +kernel) (by decide +kernel)
theorem inU_X0 : ∀ w ∈ u_ws RX0 TX0 10, w ∈ UW := by
  intro w h
  obtain ⟨k, hk, rfl⟩ := List.mem_map.mp h
  have hk2 := List.mem_range.mp hk
  match k, hk2 with
  | 0, _ => exact wl_X0_roof
  | 1, _ => exact wl_X0_holds
  | 2, _ => exact wl_X0_water
  | 3, _ => exact wl_X0_people
  | 4, _ => exact wl_X0_garden
  | 5, _ => exact wl_X0_clogged
  | 6, _ => exact wl_X0_next
  | 7, _ => exact wl_X0_thirst
  | 8, _ => exact wl_X0_watered
  | 9, _ => exact wl_X0_thirstyDays
  | k + 10, hk2 => omega
theorem inU_X1 : ∀ w ∈ u_ws RX1 TX1 6, w ∈ UW := by
  intro w h
  obtain ⟨k, hk, rfl⟩ := List.mem_map.mp h
  have hk2 := List.mem_range.mp hk
  match k, hk2 with
  | 0, _ => exact wl_X1_a
  | 1, _ => exact wl_X1_b
  | 2, _ => exact wl_X1_lets
  | 3, _ => exact wl_X1_isOpen
  | 4, _ => exact wl_X1_through
  | 5, _ => exact wl_X1_toB
  | k + 6, hk2 => omega
theorem inU_X2 : ∀ w ∈ u_ws RX2 TX2 10, w ∈ UW := by
  intro w h
  obtain ⟨k, hk, rfl⟩ := List.mem_map.mp h
  have hk2 := List.mem_range.mp hk
  match k, hk2 with
  | 0, _ => exact wl_X2_weather
  | 1, _ => exact wl_X2_houses
  | 2, _ => exact wl_X2_pipes
  | 3, _ => exact wl_X2_houseCount
  | 4, _ => exact wl_X2_pipeCount
  | 5, _ => exact wl_X2_day
  | 6, _ => exact wl_X2_fromRoofs
  | 7, _ => exact wl_X2_lost
  | 8, _ => exact wl_X2_drunk
  | 9, _ => exact wl_X2_carted
  | k + 10, hk2 => omega
theorem inU_X3 : ∀ w ∈ u_ws RX3 TX3 2, w ∈ UW := by
  intro w h
  obtain ⟨k, hk, rfl⟩ := List.mem_map.mp h
  have hk2 := List.mem_range.mp hk
  match k, hk2 with
  | 0, _ => exact wl_X3_rain
  | 1, _ => exact wl_X3_leaves
  | k + 2, hk2 => omega
theorem inU_X4 : ∀ w ∈ u_ws RX4 TX4 3, w ∈ UW := by
  intro w h
  obtain ⟨k, hk, rfl⟩ := List.mem_map.mp h
  have hk2 := List.mem_range.mp hk
  match k, hk2 with
  | 0, _ => exact wl_X4_weather
  | 1, _ => exact wl_X4_village
  | 2, _ => exact wl_X4_trial
  | k + 3, hk2 => omega
theorem inU_X5 : ∀ w ∈ u_ws RX5 TX5 10, w ∈ UW := by
  intro w h
  obtain ⟨k, hk, rfl⟩ := List.mem_map.mp h
  have hk2 := List.mem_range.mp hk
  match k, hk2 with
  | 0, _ => exact wl_X5_roof
  | 1, _ => exact wl_X5_holds
  | 2, _ => exact wl_X5_water
  | 3, _ => exact wl_X5_people
  | 4, _ => exact wl_X5_garden
  | 5, _ => exact wl_X5_clog
  | 6, _ => exact wl_X5_next
  | 7, _ => exact wl_X5_thirst
  | 8, _ => exact wl_X5_got
  | 9, _ => exact wl_X5_dry
  | k + 10, hk2 => omega
theorem inU_X6 : ∀ w ∈ u_ws RX6 TX6 9, w ∈ UW := by
  intro w h
  obtain ⟨k, hk, rfl⟩ := List.mem_map.mp h
  have hk2 := List.mem_range.mp hk
  match k, hk2 with
  | 0, _ => exact wl_X6_weather
  | 1, _ => exact wl_X6_houses
  | 2, _ => exact wl_X6_pipes
  | 3, _ => exact wl_X6_from
  | 4, _ => exact wl_X6_day
  | 5, _ => exact wl_X6_roofs
  | 6, _ => exact wl_X6_lost
  | 7, _ => exact wl_X6_drunk
  | 8, _ => exact wl_X6_carts
  | k + 9, hk2 => omega
end
section
/-! what else a making method, or one that reads the script, rests on: words that are no good words, and the script's own cell; it stays as the tables warm and the heap below z0 stays -/
def xNest : List (String × Nat × MethodName × String) := [(RX4, 9, yX3_init, RX4), (RX2, 27, yX0_init, RX4), (RX2, 28, yX1_init, RX4), (RL, 11, yX6_init, RL), (RX6, 44, yX5_init, RL)]
/-- the script's cell lies below z0; its place is kept as the number cy 9 -/
def xScr (z0 : Nat) (cy : Nat → ClassId) (U : State) : Prop := cy 9 < z0 ∧ ∃ (Ls : Nat) (xs : Nat → Int32), Ls ≤ 260 ∧ va_X (cy 9) Ls xs U U.heap
theorem va_X.lt {b L : Nat} {xs : Nat → Int32} {U : State} {H : Heap} (h : va_X b L xs U H) : b < H.size := by
  obtain ⟨scr, h1, -⟩ := h
  exact (Array.getElem?_eq_some_iff.mp h1).1
def xF (z0 : Nat) (cy : Nat → ClassId) (U : State) : Prop :=
  (∀ q ∈ xNest, va_Nw (.methodLinkNest q.1 q.2.1 q.2.2.1 q.2.2.2) U) ∧ (va_AO RX0 U ∧ va_AO RX1 U ∧ va_AO RX5 U ∧ (Cond.arrayOver (.array .int)).before #[] U = true) ∧ xScr z0 cy U
theorem xF.next {z0 : Nat} {cy : Nat → ClassId} {s U : State} (hW : s.WarmedH U.vm) (hq : ∀ a : Nat, a < s.heap.size → ¬ z0 ≤ a → U.heap[a]? = s.heap[a]?) (h : xF z0 cy s) : xF z0 cy U := by
  obtain ⟨h1, ⟨h2, h3, h4, h5⟩, h6, Ls, xs, h7, h8⟩ := h
  exact ⟨fun q hm => va_Nw.warmM hW (h1 q hm), ⟨va_AO.moved hW.alike h2, va_AO.moved hW.alike h3, va_AO.moved hW.alike h4, over_moved hW.alike h5⟩, h6, Ls, xs, h7, (va_X.moved hW.alike h8).kept (hq _ h8.lt (Nat.not_le.mpr h6))⟩
theorem xF.calling {z0 : Nat} {cy : Nat → ClassId} {U : State} {g : JFrame} {mk : MethodId} {a : Array Value} (h : xF z0 cy U) : xF z0 cy (U.calling g mk a) := xF.next (State.WarmedH.refl U) (fun _ _ _ => rfl) h
end
section

/-! the V layer: locals by place, the world a function from an index to a cell -/
/-- the world as a list -/
def wl (n : Nat) (ad : Nat → Nat) (g : Nat → va_E) : va_W := (List.range n).map (fun k => (ad k, g k))
def vAt (n : Nat) (g : Nat → va_E) (k : Nat) (e : va_E) : Prop := k < n ∧ g k = e
theorem vAt.up {n : Nat} {g : Nat → va_E} {k : Nat} {e e' : va_E} (h : vAt n g k e) : vAt n (va_up g k e') k e' := ⟨h.1, va_up_self _ _ _⟩
theorem vAt.ne {n : Nat} {g : Nat → va_E} {k j : Nat} {e e' : va_E} (h : vAt n g k e) (hj : k ≠ j) : vAt n (va_up g j e') k e := ⟨h.1, (va_up_ne _ _ hj).trans h.2⟩
theorem va_up_up {α : Type} (f : Nat → α) (k : Nat) (v w : α) : va_up (va_up f k v) k w = va_up f k w := by
  funext j
  simp only [va_up]
  split <;> rfl
theorem va_up_comm {α : Type} (f : Nat → α) {k j : Nat} (v w : α) (h : k ≠ j) : va_up (va_up f k v) j w = va_up (va_up f j w) k v := by
  funext i
  simp only [va_up]
  by_cases h1 : i = k
  · rw [if_pos h1, if_pos h1, if_neg (by rw [h1]; exact h)]
  · rw [if_neg h1, if_neg h1]
theorem va_up_eta {α : Type} (f : Nat → α) (k : Nat) (v : α) (h : f k = v) : va_up f k v = f := by
  funext j
  simp only [va_up]
  split
  · rename_i q; rw [q, h]
  · rfl
theorem wl_get {n k : Nat} {ad : Nat → Nat} {g : Nat → va_E} (h : k < n) : (wl n ad g)[k]? = some (ad k, g k) := by
  unfold wl
  rw [List.getElem?_map, List.getElem?_range h]
  rfl
theorem wl_at {n k : Nat} {ad : Nat → Nat} {g : Nat → va_E} {e : va_E} (h : vAt n g k e) : (wl n ad g)[k]? = some (ad k, e) := by
  rw [wl_get h.1, h.2]
theorem wl_set {n k : Nat} {ad : Nat → Nat} {g : Nat → va_E} {e : va_E} (h : k < n) : (wl n ad g).set k (ad k, e) = wl n ad (va_up g k e) := by
  apply List.ext_getElem?
  intro j
  by_cases hj : j = k
  · subst hj
    rw [List.getElem?_set_self (by simp [wl, h]), wl_get h, va_up_self]
  · rw [List.getElem?_set_ne (Ne.symm hj)]
    by_cases hn : j < n
    · rw [wl_get hn, wl_get hn, va_up_ne _ _ hj]
    · rw [List.getElem?_eq_none (by simp [wl]; omega), List.getElem?_eq_none (by simp [wl]; omega)]
theorem wl_push {n q : Nat} {ad : Nat → Nat} {g : Nat → va_E} {e : va_E} : wl n ad g ++ [(q, e)] = wl (n + 1) (va_up ad n q) (va_up g n e) := by
  unfold wl
  rw [List.range_succ, List.map_append]
  congr 1
  · apply List.map_congr_left
    intro k hk
    have hk' := List.mem_range.mp hk
    rw [va_up_ne _ _ (by omega), va_up_ne _ _ (by omega)]
  · simp [va_up_self]
theorem wl_cut {D : va_G} {n n' : Nat} {ad ad' : Nat → Nat} {g g' : Nat → va_E} {H : Heap} (h : va_P D vwCl (wl n ad g) H) (hn : n' ≤ n) (ha : ∀ k, k < n' → ad' k = ad k) (hg : ∀ k, k < n' → g' k = g k) : va_P D vwCl (wl n' ad' g') H := by
  intro k q hk
  have hk' : k < n' := by
    rcases Nat.lt_or_ge k n' with h1 | h1
    · exact h1
    · rw [List.getElem?_eq_none (by simp [wl]; omega)] at hk; cases hk
  rw [wl_get hk'] at hk
  cases hk
  rw [ha k hk', hg k hk']
  exact h k _ (wl_get (by omega))
theorem wl_cutD {A : Nat → Prop} {n n' : Nat} {ad ad' : Nat → Nat} {g g' : Nat → va_E} (h : va_D A (wl n ad g)) (hn : n' ≤ n) (ha : ∀ k, k < n' → ad' k = ad k) : va_D A (wl n' ad' g') := by
  have key : ∀ (k : Nat) (q : Nat × va_E), (wl n' ad' g')[k]? = some q → ∃ e, (wl n ad g)[k]? = some (q.1, e) := by
    intro k q hk
    have hk' : k < n' := by
      rcases Nat.lt_or_ge k n' with h1 | h1
      · exact h1
      · rw [List.getElem?_eq_none (by simp [wl]; omega)] at hk; cases hk
    rw [wl_get hk'] at hk
    cases hk
    exact ⟨g k, by rw [ha k hk']; exact wl_get (by omega)⟩
  refine ⟨fun i j x y hi hj hxy => ?_, fun k q hk => ?_⟩
  · obtain ⟨e1, h1⟩ := key i x hi
    obtain ⟨e2, h2⟩ := key j y hj
    exact h.1 i j _ _ h1 h2 hxy
  · obtain ⟨e1, h1⟩ := key k q hk
    exact h.2 k (q.1, e1) h1
/-- the arrays' classes -/
def tysV (cy : Nat → ClassId) : List (ClassId × FieldType) := [(cy 0, .int), (cy 1, .object RX5), (cy 2, .object RX0), (cy 3, .object RX1), (cy 4, .array .int)]
/-! locals by place -/
def prs : Nat → List (Option Value) → List (Nat × Value)
  | _, [] => []
  | i, some v :: t => (i, v) :: prs (i + 1) t
  | i, none :: t => prs (i + 1) t
theorem prs_mem : ∀ (L : List (Option Value)) (i j : Nat) (v : Value), (j, v) ∈ prs i L ↔ ∃ k, j = i + k ∧ L[k]? = some (some v)
  | [], i, j, v => by simp [prs]
  | some u :: t, i, j, v => by
    rw [prs, List.mem_cons, prs_mem t (i + 1) j v]
    constructor
    · rintro (h | ⟨k, h1, h2⟩)
      · cases h; exact ⟨0, rfl, rfl⟩
      · exact ⟨k + 1, by omega, h2⟩
    · rintro ⟨k, h1, h2⟩
      cases k with
      | zero =>
        rw [List.getElem?_cons_zero] at h2
        cases h2
        exact Or.inl (by rw [h1]; rfl)
      | succ k => exact Or.inr ⟨k, by omega, h2⟩
  | none :: t, i, j, v => by
    rw [prs, prs_mem t (i + 1) j v]
    constructor
    · rintro ⟨k, h1, h2⟩
      exact ⟨k + 1, by omega, h2⟩
    · rintro ⟨k, h1, h2⟩
      cases k with
      | zero =>
        rw [List.getElem?_cons_zero] at h2
        cases h2
      | succ k => exact ⟨k, by omega, h2⟩
def hasL (ls : Array Slot) (nL : Nat) (L : List (Option Value)) : Prop := ls.size = nL ∧ lv_wf ls ∧ ∀ (i : Nat) (v : Value), L[i]? = some (some v) → ls[i]? = some (.val v)
theorem hasL.at {ls : Array Slot} {nL : Nat} {L : List (Option Value)} (h : hasL ls nL L) {i : Nat} {v : Value} (hk : L[i]? = some (some v)) : ls[i]? = some (.val v) := h.2.2 i v hk
theorem hasL.lv {ls : Array Slot} {nL : Nat} {L : List (Option Value)} (h : hasL ls nL L) : lv_has ls nL (prs 0 L) := by
  refine ⟨h.1, h.2.1, fun q hq => ?_⟩
  obtain ⟨k, h1, h2⟩ := (prs_mem L 0 q.1 q.2).mp hq
  rw [h1, Nat.zero_add]
  exact h.2.2 k _ h2
/-- the place before holds no long -/
def noL (L : List (Option Value)) : Nat → Bool
  | 0 => true
  | i + 1 => match L[i]? with
    | some (some v) => v.category != 2
    | _ => true
theorem hasL.st1 {ls : Array Slot} {nL i : Nat} {v : Value} {L : List (Option Value)} (hp : noL L i = true) (hi : i < L.length) (h : lv_has ls nL ((i, v) :: (prs 0 L).filter (fun q => !(q.1 == i) && !(q.1 + 1 == i && q.2.category == 2)))) : hasL ls nL (L.set i (some v)) := by
  refine ⟨h.1, h.2.1, fun j w hj => ?_⟩
  by_cases hji : j = i
  · subst hji
    rw [List.getElem?_set_self hi] at hj
    cases hj
    exact h.2.2 (j, v) List.mem_cons_self
  · rw [List.getElem?_set_ne (Ne.symm hji)] at hj
    refine h.2.2 (j, w) (List.mem_cons_of_mem _ (List.mem_filter.mpr ⟨(prs_mem L 0 j w).mpr ⟨j, by omega, hj⟩, ?_⟩))
    by_cases h2 : j + 1 = i
    · subst h2
      simp only [noL, hj] at hp
      simp only [bne_iff_ne, ne_eq] at hp
      simp [hp]
    · simp [hji, h2]
theorem hasL.st2 {ls : Array Slot} {nL i : Nat} {v : Value} {L : List (Option Value)} (hp : noL L i = true) (hi : i + 1 < L.length) (h : lv_has ls nL ((i, v) :: (prs 0 L).filter (fun q => !(q.1 == i) && (!(q.1 == i + 1) && !(q.1 + 1 == i && q.2.category == 2))))) : hasL ls nL ((L.set i (some v)).set (i + 1) none) := by
  refine ⟨h.1, h.2.1, fun j w hj => ?_⟩
  by_cases hj1 : j = i + 1
  · subst hj1
    rw [List.getElem?_set_self (by rw [List.length_set]; exact hi)] at hj
    cases hj
  rw [List.getElem?_set_ne (Ne.symm hj1)] at hj
  by_cases hji : j = i
  · subst hji
    rw [List.getElem?_set_self (by omega)] at hj
    cases hj
    exact h.2.2 (j, v) List.mem_cons_self
  · rw [List.getElem?_set_ne (Ne.symm hji)] at hj
    refine h.2.2 (j, w) (List.mem_cons_of_mem _ (List.mem_filter.mpr ⟨(prs_mem L 0 j w).mpr ⟨j, by omega, hj⟩, ?_⟩))
    by_cases h2 : j + 1 = i
    · subst h2
      simp only [noL, hj] at hp
      simp only [bne_iff_ne, ne_eq] at hp
      simp [hp]
      omega
    · simp [hji, hj1, h2]
/-- fewer places known -/
def leL : List (Option Value) → List (Option Value) → Prop
  | [], _ => True
  | none :: a, _ :: b => leL a b
  | some v :: a, x :: b => x = some v ∧ leL a b
  | none :: a, [] => leL a []
  | some _ :: _, [] => False
theorem leL.at : ∀ {A B : List (Option Value)} (_ : leL A B) (i : Nat) (v : Value), A[i]? = some (some v) → B[i]? = some (some v)
  | [], _, _, i, v, h => by simp at h
  | none :: a, x :: b, hl, i, v, h => by
    cases i with
    | zero => rw [List.getElem?_cons_zero] at h; cases h
    | succ i => exact leL.at (A := a) (B := b) hl i v h
  | some u :: a, x :: b, hl, i, v, h => by
    cases i with
    | zero => rw [List.getElem?_cons_zero] at h; cases h; rw [hl.1]; rfl
    | succ i => exact leL.at (A := a) (B := b) hl.2 i v h
  | none :: a, [], hl, i, v, h => by
    cases i with
    | zero => rw [List.getElem?_cons_zero] at h; cases h
    | succ i =>
      have := leL.at (A := a) (B := []) hl i v h
      simp at this
theorem hasL.le {ls : Array Slot} {nL : Nat} {A B : List (Option Value)} (hl : leL A B) (h : hasL ls nL B) : hasL ls nL A := ⟨h.1, h.2.1, fun i v q => h.2.2 i v (hl.at i v q)⟩
def argsL : List Value → List (Option Value)
  | [] => []
  | v :: vs => if v.category = 2 then some v :: none :: argsL vs else some v :: argsL vs
theorem argsL_at : ∀ (vs : List Value) (i j : Nat) (v : Value), (argsL vs)[j]? = some (some v) → (i + j, v) ∈ lv_args i vs
  | [], _, _, _, h => by simp [argsL] at h
  | u :: vs, i, j, v, h => by
    unfold argsL at h
    rw [lv_args]
    by_cases hc : u.category = 2
    · rw [if_pos hc] at h ⊢
      match j, h with
      | 0, h => rw [List.getElem?_cons_zero] at h; cases h; exact List.mem_cons_self
      | 1, h => simp at h
      | j + 2, h =>
        have h1 : (argsL vs)[j]? = some (some v) := by simpa using h
        have := argsL_at vs (i + 2) j v h1
        rw [show i + (j + 2) = i + 2 + j by omega]
        exact List.mem_cons_of_mem _ this
    · rw [if_neg hc] at h ⊢
      match j, h with
      | 0, h => rw [List.getElem?_cons_zero] at h; cases h; exact List.mem_cons_self
      | j + 1, h =>
        have h1 : (argsL vs)[j]? = some (some v) := by simpa using h
        have := argsL_at vs (i + 1) j v h1
        rw [show i + (j + 1) = i + 1 + j by omega]
        exact List.mem_cons_of_mem _ this
theorem hasL_entry {vs : List Value} {n k : Nat} {L : List (Option Value)} (h : (lg_sl vs).length ≤ n) (hL : argsL vs ++ List.replicate k none = L) : hasL ((lg_sl vs ++ List.replicate (n - (lg_sl vs).length) Slot.unset).toArray) n L := by
  have h0 := lv_entry vs h
  refine ⟨h0.1, h0.2.1, fun i v hi => ?_⟩
  subst hL
  rcases Nat.lt_or_ge i (argsL vs).length with hl | hl
  · rw [List.getElem?_append_left hl] at hi
    have := argsL_at vs 0 i v hi
    rw [Nat.zero_add] at this
    exact h0.2.2 (i, v) this
  · rw [List.getElem?_append_right hl, List.getElem?_replicate] at hi
    split at hi <;> cases hi
/-! the judgement -/
section VJ
variable {p : Program} {l : Launch} {e : Env} {R : Room} {s : State} {m : MethodId} {args : Array Value} {below : List Frame} {meth : Method} {c : Code} {cells slots : Nat} {Q : State → Prop}
variable {cc : ByteArray} {own : String} {nL z0 n pc : Nat} {D : va_G} {cy : Nat → ClassId} {ad : Nat → Nat} {g : Nat → va_E} {L : List (Option Value)} {st : List Value}
/-- what a body rests on -/
def vCx (p : Program) (s : State) (m : MethodId) (args : Array Value) (c : Code) (cc : ByteArray) (own : String) (nL z0 : Nat) (D : va_G) (cy : Nat → ClassId) : Prop := p.tables.exec = Jvm.exec ∧ c.code = cc ∧ c.maxLocals = nL ∧ s.vm.findClass own = some m.cls ∧ (∀ w ∈ UW, w.before args s = true) ∧ va_K D vwCl (tysV cy) s ∧ z0 ≤ s.heap.size ∧ xF z0 cy s
def vV (p : Program) (l : Launch) (e : Env) (R : Room) (s : State) (m : MethodId) (args : Array Value) (below : List Frame) (meth : Method) (c : Code) (nL z0 : Nat) (D : va_G) (cells slots : Nat) (Q : State → Prop) (n : Nat) (ad : Nat → Nat) (g : Nat → va_E) (pc : Nat) (L : List (Option Value)) (st : List Value) : Prop :=
  ∀ (H : Heap) (locs : List Loc) (ls : Array Slot), va_S (fun q => z0 ≤ q) s.heap H locs → va_P D vwCl (wl n ad g) H → va_D (fun q => z0 ≤ q) (wl n ad g) → hasL ls nL L → W p l e R s m args below meth c H locs cells slots Q (F0 m pc ls st)
theorem vV.le {A : List (Option Value)} (hl : leL A L) (k : vV p l e R s m args below meth c nL z0 D cells slots Q n ad g pc A st) : vV p l e R s m args below meth c nL z0 D cells slots Q n ad g pc L st := fun H locs ls hS hP hD h => k H locs ls hS hP hD (h.le hl)
theorem vV.wd {k n' : Nat} (h1 : cells ≤ k) (h2 : slots ≤ n') (kk : vV p l e R s m args below meth c nL z0 D k n' Q n ad g pc L st) : vV p l e R s m args below meth c nL z0 D cells slots Q n ad g pc L st := fun H locs ls hS hP hD h => W.widen h1 h2 (kk H locs ls hS hP hD h)
theorem vV.gg {g' : Nat → va_E} (hg : g = g') (k : vV p l e R s m args below meth c nL z0 D cells slots Q n ad g' pc L st) : vV p l e R s m args below meth c nL z0 D cells slots Q n ad g pc L st := hg ▸ k
theorem vV.cut {n' : Nat} {ad' : Nat → Nat} {g' : Nat → va_E} (hn : n' ≤ n) (ha : ∀ k, k < n' → ad' k = ad k) (hg : ∀ k, k < n' → g' k = g k) (k : vV p l e R s m args below meth c nL z0 D cells slots Q n' ad' g' pc L st) : vV p l e R s m args below meth c nL z0 D cells slots Q n ad g pc L st := fun H locs ls hS hP hD h => k H locs ls hS (wl_cut hP hn ha hg) (wl_cutD hD hn ha) h
theorem vV.top {v w : Value} (h : v = w) (k : vV p l e R s m args below meth c nL z0 D cells slots Q n ad g pc L (w :: st)) : vV p l e R s m args below meth c nL z0 D cells slots Q n ad g pc L (v :: st) := h ▸ k
theorem vV.eqn {pc' : Nat} {L' : List (Option Value)} {st' : List Value} (k : vV p l e R s m args below meth c nL z0 D cells slots Q n ad g pc' L' st') (h1 : pc = pc') (h2 : L = L') (h3 : st = st') : vV p l e R s m args below meth c nL z0 D cells slots Q n ad g pc L st := h1 ▸ h2 ▸ h3 ▸ k

theorem v_iconst (X : vCx p s m args c cc own nL z0 D cy) {z : Int} (d : decode cc pc = .ok (.iconst z, 1))  (k : vV p l e R s m args below meth c nL z0 D cells slots Q n ad g (pc + 1) L (.int (Int32.ofInt z) :: st)) : vV p l e R s m args below meth c nL z0 D cells slots Q n ad g pc L st := fun H locs ls hS hP hD hl => lv_iconst X.1 X.2.1 d rfl (k H locs ls hS hP hD hl)
theorem v_bipush (X : vCx p s m args c cc own nL z0 D cy) {z : Int} (d : decode cc pc = .ok (.bipush z, 2))  (k : vV p l e R s m args below meth c nL z0 D cells slots Q n ad g (pc + 2) L (.int (Int8.ofInt z).toInt32 :: st)) : vV p l e R s m args below meth c nL z0 D cells slots Q n ad g pc L st := fun H locs ls hS hP hD hl => lv_bipush X.1 X.2.1 d rfl (k H locs ls hS hP hD hl)
theorem v_sipush (X : vCx p s m args c cc own nL z0 D cy) {z : Int} (d : decode cc pc = .ok (.sipush z, 3))  (k : vV p l e R s m args below meth c nL z0 D cells slots Q n ad g (pc + 3) L (.int (Int16.ofInt z).toInt32 :: st)) : vV p l e R s m args below meth c nL z0 D cells slots Q n ad g pc L st := fun H locs ls hS hP hD hl => lv_sipush X.1 X.2.1 d rfl (k H locs ls hS hP hD hl)
theorem v_bip {v : Int32} (X : vCx p s m args c cc own nL z0 D cy) {z : Int} (d : decode cc pc = .ok (.bipush z, 2)) (hv : (Int8.ofInt z).toInt32 = v) (k : vV p l e R s m args below meth c nL z0 D cells slots Q n ad g (pc + 2) L (.int v :: st)) : vV p l e R s m args below meth c nL z0 D cells slots Q n ad g pc L st := fun H locs ls hS hP hD hl => lv_bipush X.1 X.2.1 d hv (k H locs ls hS hP hD hl)
theorem v_sip {v : Int32} (X : vCx p s m args c cc own nL z0 D cy) {z : Int} (d : decode cc pc = .ok (.sipush z, 3)) (hv : (Int16.ofInt z).toInt32 = v) (k : vV p l e R s m args below meth c nL z0 D cells slots Q n ad g (pc + 3) L (.int v :: st)) : vV p l e R s m args below meth c nL z0 D cells slots Q n ad g pc L st := fun H locs ls hS hP hD hl => lv_sipush X.1 X.2.1 d hv (k H locs ls hS hP hD hl)
theorem v_ico {v : Int32} (X : vCx p s m args c cc own nL z0 D cy) {z : Int} (d : decode cc pc = .ok (.iconst z, 1)) (hv : Int32.ofInt z = v) (k : vV p l e R s m args below meth c nL z0 D cells slots Q n ad g (pc + 1) L (.int v :: st)) : vV p l e R s m args below meth c nL z0 D cells slots Q n ad g pc L st := fun H locs ls hS hP hD hl => lv_iconst X.1 X.2.1 d hv (k H locs ls hS hP hD hl)
theorem v_lco {v : Int64} (X : vCx p s m args c cc own nL z0 D cy) {z : Fin 2} (d : decode cc pc = .ok (.lconst z, 1)) (hv : Int64.ofNat (z : Nat) = v) (k : vV p l e R s m args below meth c nL z0 D cells slots Q n ad g (pc + 1) L (.long v :: st)) : vV p l e R s m args below meth c nL z0 D cells slots Q n ad g pc L st := fun H locs ls hS hP hD hl => lv_lconst X.1 X.2.1 d hv (k H locs ls hS hP hD hl)
theorem v_iload0 (X : vCx p s m args c cc own nL z0 D cy) {x : Int32} (d : decode cc pc = .ok (.iload_n 0, 1)) (hx : L[0]? = some (some (.int x))) (k : vV p l e R s m args below meth c nL z0 D cells slots Q n ad g (pc + 1) L (.int x :: st)) : vV p l e R s m args below meth c nL z0 D cells slots Q n ad g pc L st := fun H locs ls hS hP hD hl => lv_iload_n X.1 X.2.1 d rfl (hl.at hx) (k H locs ls hS hP hD hl)
theorem v_iload1 (X : vCx p s m args c cc own nL z0 D cy) {x : Int32} (d : decode cc pc = .ok (.iload_n 1, 1)) (hx : L[1]? = some (some (.int x))) (k : vV p l e R s m args below meth c nL z0 D cells slots Q n ad g (pc + 1) L (.int x :: st)) : vV p l e R s m args below meth c nL z0 D cells slots Q n ad g pc L st := fun H locs ls hS hP hD hl => lv_iload_n X.1 X.2.1 d rfl (hl.at hx) (k H locs ls hS hP hD hl)
theorem v_iload2 (X : vCx p s m args c cc own nL z0 D cy) {x : Int32} (d : decode cc pc = .ok (.iload_n 2, 1)) (hx : L[2]? = some (some (.int x))) (k : vV p l e R s m args below meth c nL z0 D cells slots Q n ad g (pc + 1) L (.int x :: st)) : vV p l e R s m args below meth c nL z0 D cells slots Q n ad g pc L st := fun H locs ls hS hP hD hl => lv_iload_n X.1 X.2.1 d rfl (hl.at hx) (k H locs ls hS hP hD hl)
theorem v_iload3 (X : vCx p s m args c cc own nL z0 D cy) {x : Int32} (d : decode cc pc = .ok (.iload_n 3, 1)) (hx : L[3]? = some (some (.int x))) (k : vV p l e R s m args below meth c nL z0 D cells slots Q n ad g (pc + 1) L (.int x :: st)) : vV p l e R s m args below meth c nL z0 D cells slots Q n ad g pc L st := fun H locs ls hS hP hD hl => lv_iload_n X.1 X.2.1 d rfl (hl.at hx) (k H locs ls hS hP hD hl)
theorem v_iload (X : vCx p s m args c cc own nL z0 D cy) {i : Nat} {x : Int32} (d : decode cc pc = .ok (.iload i, 2)) (hx : L[i]? = some (some (.int x))) (k : vV p l e R s m args below meth c nL z0 D cells slots Q n ad g (pc + 2) L (.int x :: st)) : vV p l e R s m args below meth c nL z0 D cells slots Q n ad g pc L st := fun H locs ls hS hP hD hl => lv_iload X.1 X.2.1 d (hl.at hx) (k H locs ls hS hP hD hl)
theorem v_aload0 (X : vCx p s m args c cc own nL z0 D cy) {x : Nat} (d : decode cc pc = .ok (.aload_n 0, 1)) (hx : L[0]? = some (some (.ref x))) (k : vV p l e R s m args below meth c nL z0 D cells slots Q n ad g (pc + 1) L (.ref x :: st)) : vV p l e R s m args below meth c nL z0 D cells slots Q n ad g pc L st := fun H locs ls hS hP hD hl => lv_aload_n X.1 X.2.1 d rfl (hl.at hx) (k H locs ls hS hP hD hl)
theorem v_aload1 (X : vCx p s m args c cc own nL z0 D cy) {x : Nat} (d : decode cc pc = .ok (.aload_n 1, 1)) (hx : L[1]? = some (some (.ref x))) (k : vV p l e R s m args below meth c nL z0 D cells slots Q n ad g (pc + 1) L (.ref x :: st)) : vV p l e R s m args below meth c nL z0 D cells slots Q n ad g pc L st := fun H locs ls hS hP hD hl => lv_aload_n X.1 X.2.1 d rfl (hl.at hx) (k H locs ls hS hP hD hl)
theorem v_aload2 (X : vCx p s m args c cc own nL z0 D cy) {x : Nat} (d : decode cc pc = .ok (.aload_n 2, 1)) (hx : L[2]? = some (some (.ref x))) (k : vV p l e R s m args below meth c nL z0 D cells slots Q n ad g (pc + 1) L (.ref x :: st)) : vV p l e R s m args below meth c nL z0 D cells slots Q n ad g pc L st := fun H locs ls hS hP hD hl => lv_aload_n X.1 X.2.1 d rfl (hl.at hx) (k H locs ls hS hP hD hl)
theorem v_aload3 (X : vCx p s m args c cc own nL z0 D cy) {x : Nat} (d : decode cc pc = .ok (.aload_n 3, 1)) (hx : L[3]? = some (some (.ref x))) (k : vV p l e R s m args below meth c nL z0 D cells slots Q n ad g (pc + 1) L (.ref x :: st)) : vV p l e R s m args below meth c nL z0 D cells slots Q n ad g pc L st := fun H locs ls hS hP hD hl => lv_aload_n X.1 X.2.1 d rfl (hl.at hx) (k H locs ls hS hP hD hl)
theorem v_aload (X : vCx p s m args c cc own nL z0 D cy) {i : Nat} {x : Nat} (d : decode cc pc = .ok (.aload i, 2)) (hx : L[i]? = some (some (.ref x))) (k : vV p l e R s m args below meth c nL z0 D cells slots Q n ad g (pc + 2) L (.ref x :: st)) : vV p l e R s m args below meth c nL z0 D cells slots Q n ad g pc L st := fun H locs ls hS hP hD hl => lv_aload X.1 X.2.1 d (hl.at hx) (k H locs ls hS hP hD hl)
theorem v_lload0 (X : vCx p s m args c cc own nL z0 D cy) {x : Int64} (d : decode cc pc = .ok (.lload_n 0, 1)) (hx : L[0]? = some (some (.long x))) (k : vV p l e R s m args below meth c nL z0 D cells slots Q n ad g (pc + 1) L (.long x :: st)) : vV p l e R s m args below meth c nL z0 D cells slots Q n ad g pc L st := fun H locs ls hS hP hD hl => lv_lload_n X.1 X.2.1 d rfl (hl.at hx) (k H locs ls hS hP hD hl)
theorem v_lload1 (X : vCx p s m args c cc own nL z0 D cy) {x : Int64} (d : decode cc pc = .ok (.lload_n 1, 1)) (hx : L[1]? = some (some (.long x))) (k : vV p l e R s m args below meth c nL z0 D cells slots Q n ad g (pc + 1) L (.long x :: st)) : vV p l e R s m args below meth c nL z0 D cells slots Q n ad g pc L st := fun H locs ls hS hP hD hl => lv_lload_n X.1 X.2.1 d rfl (hl.at hx) (k H locs ls hS hP hD hl)
theorem v_lload2 (X : vCx p s m args c cc own nL z0 D cy) {x : Int64} (d : decode cc pc = .ok (.lload_n 2, 1)) (hx : L[2]? = some (some (.long x))) (k : vV p l e R s m args below meth c nL z0 D cells slots Q n ad g (pc + 1) L (.long x :: st)) : vV p l e R s m args below meth c nL z0 D cells slots Q n ad g pc L st := fun H locs ls hS hP hD hl => lv_lload_n X.1 X.2.1 d rfl (hl.at hx) (k H locs ls hS hP hD hl)
theorem v_lload3 (X : vCx p s m args c cc own nL z0 D cy) {x : Int64} (d : decode cc pc = .ok (.lload_n 3, 1)) (hx : L[3]? = some (some (.long x))) (k : vV p l e R s m args below meth c nL z0 D cells slots Q n ad g (pc + 1) L (.long x :: st)) : vV p l e R s m args below meth c nL z0 D cells slots Q n ad g pc L st := fun H locs ls hS hP hD hl => lv_lload_n X.1 X.2.1 d rfl (hl.at hx) (k H locs ls hS hP hD hl)
theorem v_lload (X : vCx p s m args c cc own nL z0 D cy) {i : Nat} {x : Int64} (d : decode cc pc = .ok (.lload i, 2)) (hx : L[i]? = some (some (.long x))) (k : vV p l e R s m args below meth c nL z0 D cells slots Q n ad g (pc + 2) L (.long x :: st)) : vV p l e R s m args below meth c nL z0 D cells slots Q n ad g pc L st := fun H locs ls hS hP hD hl => lv_lload X.1 X.2.1 d (hl.at hx) (k H locs ls hS hP hD hl)
theorem v_dload0 (X : vCx p s m args c cc own nL z0 D cy) {x : UInt64} (d : decode cc pc = .ok (.dload_n 0, 1)) (hx : L[0]? = some (some (.double x))) (k : vV p l e R s m args below meth c nL z0 D cells slots Q n ad g (pc + 1) L (.double x :: st)) : vV p l e R s m args below meth c nL z0 D cells slots Q n ad g pc L st := fun H locs ls hS hP hD hl => lv_dload_n X.1 X.2.1 d rfl (hl.at hx) (k H locs ls hS hP hD hl)
theorem v_dload1 (X : vCx p s m args c cc own nL z0 D cy) {x : UInt64} (d : decode cc pc = .ok (.dload_n 1, 1)) (hx : L[1]? = some (some (.double x))) (k : vV p l e R s m args below meth c nL z0 D cells slots Q n ad g (pc + 1) L (.double x :: st)) : vV p l e R s m args below meth c nL z0 D cells slots Q n ad g pc L st := fun H locs ls hS hP hD hl => lv_dload_n X.1 X.2.1 d rfl (hl.at hx) (k H locs ls hS hP hD hl)
theorem v_dload2 (X : vCx p s m args c cc own nL z0 D cy) {x : UInt64} (d : decode cc pc = .ok (.dload_n 2, 1)) (hx : L[2]? = some (some (.double x))) (k : vV p l e R s m args below meth c nL z0 D cells slots Q n ad g (pc + 1) L (.double x :: st)) : vV p l e R s m args below meth c nL z0 D cells slots Q n ad g pc L st := fun H locs ls hS hP hD hl => lv_dload_n X.1 X.2.1 d rfl (hl.at hx) (k H locs ls hS hP hD hl)
theorem v_dload3 (X : vCx p s m args c cc own nL z0 D cy) {x : UInt64} (d : decode cc pc = .ok (.dload_n 3, 1)) (hx : L[3]? = some (some (.double x))) (k : vV p l e R s m args below meth c nL z0 D cells slots Q n ad g (pc + 1) L (.double x :: st)) : vV p l e R s m args below meth c nL z0 D cells slots Q n ad g pc L st := fun H locs ls hS hP hD hl => lv_dload_n X.1 X.2.1 d rfl (hl.at hx) (k H locs ls hS hP hD hl)
theorem v_dload (X : vCx p s m args c cc own nL z0 D cy) {i : Nat} {x : UInt64} (d : decode cc pc = .ok (.dload i, 2)) (hx : L[i]? = some (some (.double x))) (k : vV p l e R s m args below meth c nL z0 D cells slots Q n ad g (pc + 2) L (.double x :: st)) : vV p l e R s m args below meth c nL z0 D cells slots Q n ad g pc L st := fun H locs ls hS hP hD hl => lv_dload X.1 X.2.1 d (hl.at hx) (k H locs ls hS hP hD hl)
theorem v_istore0 (X : vCx p s m args c cc own nL z0 D cy) {x : Int32} { b : Option Value} {t : List (Option Value)} (hp : noL (b :: t) 0 = true) (hn : 0 < nL) (d : decode cc pc = .ok (.istore_n 0, 1)) (k : vV p l e R s m args below meth c nL z0 D cells slots Q n ad g (pc + 1) (some (.int x) :: t) st) : vV p l e R s m args below meth c nL z0 D cells slots Q n ad g pc (b :: t) (.int x :: st) := fun H locs ls hS hP hD hl => lv_istore_n X.1 X.2.1 d rfl hl.lv hn rfl (fun ls' hl' => k H locs ls' hS hP hD (hasL.st1 hp (by simp) hl'))
theorem v_istore1 (X : vCx p s m args c cc own nL z0 D cy) {x : Int32} {a0 b : Option Value} {t : List (Option Value)} (hp : noL (a0 :: b :: t) 1 = true) (hn : 1 < nL) (d : decode cc pc = .ok (.istore_n 1, 1)) (k : vV p l e R s m args below meth c nL z0 D cells slots Q n ad g (pc + 1) (a0 :: some (.int x) :: t) st) : vV p l e R s m args below meth c nL z0 D cells slots Q n ad g pc (a0 :: b :: t) (.int x :: st) := fun H locs ls hS hP hD hl => lv_istore_n X.1 X.2.1 d rfl hl.lv hn rfl (fun ls' hl' => k H locs ls' hS hP hD (hasL.st1 hp (by simp) hl'))
theorem v_istore2 (X : vCx p s m args c cc own nL z0 D cy) {x : Int32} {a0 a1 b : Option Value} {t : List (Option Value)} (hp : noL (a0 :: a1 :: b :: t) 2 = true) (hn : 2 < nL) (d : decode cc pc = .ok (.istore_n 2, 1)) (k : vV p l e R s m args below meth c nL z0 D cells slots Q n ad g (pc + 1) (a0 :: a1 :: some (.int x) :: t) st) : vV p l e R s m args below meth c nL z0 D cells slots Q n ad g pc (a0 :: a1 :: b :: t) (.int x :: st) := fun H locs ls hS hP hD hl => lv_istore_n X.1 X.2.1 d rfl hl.lv hn rfl (fun ls' hl' => k H locs ls' hS hP hD (hasL.st1 hp (by simp) hl'))
theorem v_istore3 (X : vCx p s m args c cc own nL z0 D cy) {x : Int32} {a0 a1 a2 b : Option Value} {t : List (Option Value)} (hp : noL (a0 :: a1 :: a2 :: b :: t) 3 = true) (hn : 3 < nL) (d : decode cc pc = .ok (.istore_n 3, 1)) (k : vV p l e R s m args below meth c nL z0 D cells slots Q n ad g (pc + 1) (a0 :: a1 :: a2 :: some (.int x) :: t) st) : vV p l e R s m args below meth c nL z0 D cells slots Q n ad g pc (a0 :: a1 :: a2 :: b :: t) (.int x :: st) := fun H locs ls hS hP hD hl => lv_istore_n X.1 X.2.1 d rfl hl.lv hn rfl (fun ls' hl' => k H locs ls' hS hP hD (hasL.st1 hp (by simp) hl'))
theorem v_istore4 (X : vCx p s m args c cc own nL z0 D cy) {x : Int32} {a0 a1 a2 a3 b : Option Value} {t : List (Option Value)} (hp : noL (a0 :: a1 :: a2 :: a3 :: b :: t) 4 = true) (hn : 4 < nL) (d : decode cc pc = .ok (.istore 4, 2)) (k : vV p l e R s m args below meth c nL z0 D cells slots Q n ad g (pc + 2) (a0 :: a1 :: a2 :: a3 :: some (.int x) :: t) st) : vV p l e R s m args below meth c nL z0 D cells slots Q n ad g pc (a0 :: a1 :: a2 :: a3 :: b :: t) (.int x :: st) := fun H locs ls hS hP hD hl => lv_istore X.1 X.2.1 d hl.lv hn rfl (fun ls' hl' => k H locs ls' hS hP hD (hasL.st1 hp (by simp) hl'))
theorem v_istore5 (X : vCx p s m args c cc own nL z0 D cy) {x : Int32} {a0 a1 a2 a3 a4 b : Option Value} {t : List (Option Value)} (hp : noL (a0 :: a1 :: a2 :: a3 :: a4 :: b :: t) 5 = true) (hn : 5 < nL) (d : decode cc pc = .ok (.istore 5, 2)) (k : vV p l e R s m args below meth c nL z0 D cells slots Q n ad g (pc + 2) (a0 :: a1 :: a2 :: a3 :: a4 :: some (.int x) :: t) st) : vV p l e R s m args below meth c nL z0 D cells slots Q n ad g pc (a0 :: a1 :: a2 :: a3 :: a4 :: b :: t) (.int x :: st) := fun H locs ls hS hP hD hl => lv_istore X.1 X.2.1 d hl.lv hn rfl (fun ls' hl' => k H locs ls' hS hP hD (hasL.st1 hp (by simp) hl'))
theorem v_istore6 (X : vCx p s m args c cc own nL z0 D cy) {x : Int32} {a0 a1 a2 a3 a4 a5 b : Option Value} {t : List (Option Value)} (hp : noL (a0 :: a1 :: a2 :: a3 :: a4 :: a5 :: b :: t) 6 = true) (hn : 6 < nL) (d : decode cc pc = .ok (.istore 6, 2)) (k : vV p l e R s m args below meth c nL z0 D cells slots Q n ad g (pc + 2) (a0 :: a1 :: a2 :: a3 :: a4 :: a5 :: some (.int x) :: t) st) : vV p l e R s m args below meth c nL z0 D cells slots Q n ad g pc (a0 :: a1 :: a2 :: a3 :: a4 :: a5 :: b :: t) (.int x :: st) := fun H locs ls hS hP hD hl => lv_istore X.1 X.2.1 d hl.lv hn rfl (fun ls' hl' => k H locs ls' hS hP hD (hasL.st1 hp (by simp) hl'))
theorem v_istore7 (X : vCx p s m args c cc own nL z0 D cy) {x : Int32} {a0 a1 a2 a3 a4 a5 a6 b : Option Value} {t : List (Option Value)} (hp : noL (a0 :: a1 :: a2 :: a3 :: a4 :: a5 :: a6 :: b :: t) 7 = true) (hn : 7 < nL) (d : decode cc pc = .ok (.istore 7, 2)) (k : vV p l e R s m args below meth c nL z0 D cells slots Q n ad g (pc + 2) (a0 :: a1 :: a2 :: a3 :: a4 :: a5 :: a6 :: some (.int x) :: t) st) : vV p l e R s m args below meth c nL z0 D cells slots Q n ad g pc (a0 :: a1 :: a2 :: a3 :: a4 :: a5 :: a6 :: b :: t) (.int x :: st) := fun H locs ls hS hP hD hl => lv_istore X.1 X.2.1 d hl.lv hn rfl (fun ls' hl' => k H locs ls' hS hP hD (hasL.st1 hp (by simp) hl'))
theorem v_istore8 (X : vCx p s m args c cc own nL z0 D cy) {x : Int32} {a0 a1 a2 a3 a4 a5 a6 a7 b : Option Value} {t : List (Option Value)} (hp : noL (a0 :: a1 :: a2 :: a3 :: a4 :: a5 :: a6 :: a7 :: b :: t) 8 = true) (hn : 8 < nL) (d : decode cc pc = .ok (.istore 8, 2)) (k : vV p l e R s m args below meth c nL z0 D cells slots Q n ad g (pc + 2) (a0 :: a1 :: a2 :: a3 :: a4 :: a5 :: a6 :: a7 :: some (.int x) :: t) st) : vV p l e R s m args below meth c nL z0 D cells slots Q n ad g pc (a0 :: a1 :: a2 :: a3 :: a4 :: a5 :: a6 :: a7 :: b :: t) (.int x :: st) := fun H locs ls hS hP hD hl => lv_istore X.1 X.2.1 d hl.lv hn rfl (fun ls' hl' => k H locs ls' hS hP hD (hasL.st1 hp (by simp) hl'))
theorem v_istore9 (X : vCx p s m args c cc own nL z0 D cy) {x : Int32} {a0 a1 a2 a3 a4 a5 a6 a7 a8 b : Option Value} {t : List (Option Value)} (hp : noL (a0 :: a1 :: a2 :: a3 :: a4 :: a5 :: a6 :: a7 :: a8 :: b :: t) 9 = true) (hn : 9 < nL) (d : decode cc pc = .ok (.istore 9, 2)) (k : vV p l e R s m args below meth c nL z0 D cells slots Q n ad g (pc + 2) (a0 :: a1 :: a2 :: a3 :: a4 :: a5 :: a6 :: a7 :: a8 :: some (.int x) :: t) st) : vV p l e R s m args below meth c nL z0 D cells slots Q n ad g pc (a0 :: a1 :: a2 :: a3 :: a4 :: a5 :: a6 :: a7 :: a8 :: b :: t) (.int x :: st) := fun H locs ls hS hP hD hl => lv_istore X.1 X.2.1 d hl.lv hn rfl (fun ls' hl' => k H locs ls' hS hP hD (hasL.st1 hp (by simp) hl'))
theorem v_istore10 (X : vCx p s m args c cc own nL z0 D cy) {x : Int32} {a0 a1 a2 a3 a4 a5 a6 a7 a8 a9 b : Option Value} {t : List (Option Value)} (hp : noL (a0 :: a1 :: a2 :: a3 :: a4 :: a5 :: a6 :: a7 :: a8 :: a9 :: b :: t) 10 = true) (hn : 10 < nL) (d : decode cc pc = .ok (.istore 10, 2)) (k : vV p l e R s m args below meth c nL z0 D cells slots Q n ad g (pc + 2) (a0 :: a1 :: a2 :: a3 :: a4 :: a5 :: a6 :: a7 :: a8 :: a9 :: some (.int x) :: t) st) : vV p l e R s m args below meth c nL z0 D cells slots Q n ad g pc (a0 :: a1 :: a2 :: a3 :: a4 :: a5 :: a6 :: a7 :: a8 :: a9 :: b :: t) (.int x :: st) := fun H locs ls hS hP hD hl => lv_istore X.1 X.2.1 d hl.lv hn rfl (fun ls' hl' => k H locs ls' hS hP hD (hasL.st1 hp (by simp) hl'))
theorem v_istore11 (X : vCx p s m args c cc own nL z0 D cy) {x : Int32} {a0 a1 a2 a3 a4 a5 a6 a7 a8 a9 a10 b : Option Value} {t : List (Option Value)} (hp : noL (a0 :: a1 :: a2 :: a3 :: a4 :: a5 :: a6 :: a7 :: a8 :: a9 :: a10 :: b :: t) 11 = true) (hn : 11 < nL) (d : decode cc pc = .ok (.istore 11, 2)) (k : vV p l e R s m args below meth c nL z0 D cells slots Q n ad g (pc + 2) (a0 :: a1 :: a2 :: a3 :: a4 :: a5 :: a6 :: a7 :: a8 :: a9 :: a10 :: some (.int x) :: t) st) : vV p l e R s m args below meth c nL z0 D cells slots Q n ad g pc (a0 :: a1 :: a2 :: a3 :: a4 :: a5 :: a6 :: a7 :: a8 :: a9 :: a10 :: b :: t) (.int x :: st) := fun H locs ls hS hP hD hl => lv_istore X.1 X.2.1 d hl.lv hn rfl (fun ls' hl' => k H locs ls' hS hP hD (hasL.st1 hp (by simp) hl'))
theorem v_istore12 (X : vCx p s m args c cc own nL z0 D cy) {x : Int32} {a0 a1 a2 a3 a4 a5 a6 a7 a8 a9 a10 a11 b : Option Value} {t : List (Option Value)} (hp : noL (a0 :: a1 :: a2 :: a3 :: a4 :: a5 :: a6 :: a7 :: a8 :: a9 :: a10 :: a11 :: b :: t) 12 = true) (hn : 12 < nL) (d : decode cc pc = .ok (.istore 12, 2)) (k : vV p l e R s m args below meth c nL z0 D cells slots Q n ad g (pc + 2) (a0 :: a1 :: a2 :: a3 :: a4 :: a5 :: a6 :: a7 :: a8 :: a9 :: a10 :: a11 :: some (.int x) :: t) st) : vV p l e R s m args below meth c nL z0 D cells slots Q n ad g pc (a0 :: a1 :: a2 :: a3 :: a4 :: a5 :: a6 :: a7 :: a8 :: a9 :: a10 :: a11 :: b :: t) (.int x :: st) := fun H locs ls hS hP hD hl => lv_istore X.1 X.2.1 d hl.lv hn rfl (fun ls' hl' => k H locs ls' hS hP hD (hasL.st1 hp (by simp) hl'))
theorem v_istore13 (X : vCx p s m args c cc own nL z0 D cy) {x : Int32} {a0 a1 a2 a3 a4 a5 a6 a7 a8 a9 a10 a11 a12 b : Option Value} {t : List (Option Value)} (hp : noL (a0 :: a1 :: a2 :: a3 :: a4 :: a5 :: a6 :: a7 :: a8 :: a9 :: a10 :: a11 :: a12 :: b :: t) 13 = true) (hn : 13 < nL) (d : decode cc pc = .ok (.istore 13, 2)) (k : vV p l e R s m args below meth c nL z0 D cells slots Q n ad g (pc + 2) (a0 :: a1 :: a2 :: a3 :: a4 :: a5 :: a6 :: a7 :: a8 :: a9 :: a10 :: a11 :: a12 :: some (.int x) :: t) st) : vV p l e R s m args below meth c nL z0 D cells slots Q n ad g pc (a0 :: a1 :: a2 :: a3 :: a4 :: a5 :: a6 :: a7 :: a8 :: a9 :: a10 :: a11 :: a12 :: b :: t) (.int x :: st) := fun H locs ls hS hP hD hl => lv_istore X.1 X.2.1 d hl.lv hn rfl (fun ls' hl' => k H locs ls' hS hP hD (hasL.st1 hp (by simp) hl'))
theorem v_istore14 (X : vCx p s m args c cc own nL z0 D cy) {x : Int32} {a0 a1 a2 a3 a4 a5 a6 a7 a8 a9 a10 a11 a12 a13 b : Option Value} {t : List (Option Value)} (hp : noL (a0 :: a1 :: a2 :: a3 :: a4 :: a5 :: a6 :: a7 :: a8 :: a9 :: a10 :: a11 :: a12 :: a13 :: b :: t) 14 = true) (hn : 14 < nL) (d : decode cc pc = .ok (.istore 14, 2)) (k : vV p l e R s m args below meth c nL z0 D cells slots Q n ad g (pc + 2) (a0 :: a1 :: a2 :: a3 :: a4 :: a5 :: a6 :: a7 :: a8 :: a9 :: a10 :: a11 :: a12 :: a13 :: some (.int x) :: t) st) : vV p l e R s m args below meth c nL z0 D cells slots Q n ad g pc (a0 :: a1 :: a2 :: a3 :: a4 :: a5 :: a6 :: a7 :: a8 :: a9 :: a10 :: a11 :: a12 :: a13 :: b :: t) (.int x :: st) := fun H locs ls hS hP hD hl => lv_istore X.1 X.2.1 d hl.lv hn rfl (fun ls' hl' => k H locs ls' hS hP hD (hasL.st1 hp (by simp) hl'))
theorem v_istore15 (X : vCx p s m args c cc own nL z0 D cy) {x : Int32} {a0 a1 a2 a3 a4 a5 a6 a7 a8 a9 a10 a11 a12 a13 a14 b : Option Value} {t : List (Option Value)} (hp : noL (a0 :: a1 :: a2 :: a3 :: a4 :: a5 :: a6 :: a7 :: a8 :: a9 :: a10 :: a11 :: a12 :: a13 :: a14 :: b :: t) 15 = true) (hn : 15 < nL) (d : decode cc pc = .ok (.istore 15, 2)) (k : vV p l e R s m args below meth c nL z0 D cells slots Q n ad g (pc + 2) (a0 :: a1 :: a2 :: a3 :: a4 :: a5 :: a6 :: a7 :: a8 :: a9 :: a10 :: a11 :: a12 :: a13 :: a14 :: some (.int x) :: t) st) : vV p l e R s m args below meth c nL z0 D cells slots Q n ad g pc (a0 :: a1 :: a2 :: a3 :: a4 :: a5 :: a6 :: a7 :: a8 :: a9 :: a10 :: a11 :: a12 :: a13 :: a14 :: b :: t) (.int x :: st) := fun H locs ls hS hP hD hl => lv_istore X.1 X.2.1 d hl.lv hn rfl (fun ls' hl' => k H locs ls' hS hP hD (hasL.st1 hp (by simp) hl'))
theorem v_istore16 (X : vCx p s m args c cc own nL z0 D cy) {x : Int32} {a0 a1 a2 a3 a4 a5 a6 a7 a8 a9 a10 a11 a12 a13 a14 a15 b : Option Value} {t : List (Option Value)} (hp : noL (a0 :: a1 :: a2 :: a3 :: a4 :: a5 :: a6 :: a7 :: a8 :: a9 :: a10 :: a11 :: a12 :: a13 :: a14 :: a15 :: b :: t) 16 = true) (hn : 16 < nL) (d : decode cc pc = .ok (.istore 16, 2)) (k : vV p l e R s m args below meth c nL z0 D cells slots Q n ad g (pc + 2) (a0 :: a1 :: a2 :: a3 :: a4 :: a5 :: a6 :: a7 :: a8 :: a9 :: a10 :: a11 :: a12 :: a13 :: a14 :: a15 :: some (.int x) :: t) st) : vV p l e R s m args below meth c nL z0 D cells slots Q n ad g pc (a0 :: a1 :: a2 :: a3 :: a4 :: a5 :: a6 :: a7 :: a8 :: a9 :: a10 :: a11 :: a12 :: a13 :: a14 :: a15 :: b :: t) (.int x :: st) := fun H locs ls hS hP hD hl => lv_istore X.1 X.2.1 d hl.lv hn rfl (fun ls' hl' => k H locs ls' hS hP hD (hasL.st1 hp (by simp) hl'))
theorem v_istore17 (X : vCx p s m args c cc own nL z0 D cy) {x : Int32} {a0 a1 a2 a3 a4 a5 a6 a7 a8 a9 a10 a11 a12 a13 a14 a15 a16 b : Option Value} {t : List (Option Value)} (hp : noL (a0 :: a1 :: a2 :: a3 :: a4 :: a5 :: a6 :: a7 :: a8 :: a9 :: a10 :: a11 :: a12 :: a13 :: a14 :: a15 :: a16 :: b :: t) 17 = true) (hn : 17 < nL) (d : decode cc pc = .ok (.istore 17, 2)) (k : vV p l e R s m args below meth c nL z0 D cells slots Q n ad g (pc + 2) (a0 :: a1 :: a2 :: a3 :: a4 :: a5 :: a6 :: a7 :: a8 :: a9 :: a10 :: a11 :: a12 :: a13 :: a14 :: a15 :: a16 :: some (.int x) :: t) st) : vV p l e R s m args below meth c nL z0 D cells slots Q n ad g pc (a0 :: a1 :: a2 :: a3 :: a4 :: a5 :: a6 :: a7 :: a8 :: a9 :: a10 :: a11 :: a12 :: a13 :: a14 :: a15 :: a16 :: b :: t) (.int x :: st) := fun H locs ls hS hP hD hl => lv_istore X.1 X.2.1 d hl.lv hn rfl (fun ls' hl' => k H locs ls' hS hP hD (hasL.st1 hp (by simp) hl'))
theorem v_istore18 (X : vCx p s m args c cc own nL z0 D cy) {x : Int32} {a0 a1 a2 a3 a4 a5 a6 a7 a8 a9 a10 a11 a12 a13 a14 a15 a16 a17 b : Option Value} {t : List (Option Value)} (hp : noL (a0 :: a1 :: a2 :: a3 :: a4 :: a5 :: a6 :: a7 :: a8 :: a9 :: a10 :: a11 :: a12 :: a13 :: a14 :: a15 :: a16 :: a17 :: b :: t) 18 = true) (hn : 18 < nL) (d : decode cc pc = .ok (.istore 18, 2)) (k : vV p l e R s m args below meth c nL z0 D cells slots Q n ad g (pc + 2) (a0 :: a1 :: a2 :: a3 :: a4 :: a5 :: a6 :: a7 :: a8 :: a9 :: a10 :: a11 :: a12 :: a13 :: a14 :: a15 :: a16 :: a17 :: some (.int x) :: t) st) : vV p l e R s m args below meth c nL z0 D cells slots Q n ad g pc (a0 :: a1 :: a2 :: a3 :: a4 :: a5 :: a6 :: a7 :: a8 :: a9 :: a10 :: a11 :: a12 :: a13 :: a14 :: a15 :: a16 :: a17 :: b :: t) (.int x :: st) := fun H locs ls hS hP hD hl => lv_istore X.1 X.2.1 d hl.lv hn rfl (fun ls' hl' => k H locs ls' hS hP hD (hasL.st1 hp (by simp) hl'))
theorem v_istore19 (X : vCx p s m args c cc own nL z0 D cy) {x : Int32} {a0 a1 a2 a3 a4 a5 a6 a7 a8 a9 a10 a11 a12 a13 a14 a15 a16 a17 a18 b : Option Value} {t : List (Option Value)} (hp : noL (a0 :: a1 :: a2 :: a3 :: a4 :: a5 :: a6 :: a7 :: a8 :: a9 :: a10 :: a11 :: a12 :: a13 :: a14 :: a15 :: a16 :: a17 :: a18 :: b :: t) 19 = true) (hn : 19 < nL) (d : decode cc pc = .ok (.istore 19, 2)) (k : vV p l e R s m args below meth c nL z0 D cells slots Q n ad g (pc + 2) (a0 :: a1 :: a2 :: a3 :: a4 :: a5 :: a6 :: a7 :: a8 :: a9 :: a10 :: a11 :: a12 :: a13 :: a14 :: a15 :: a16 :: a17 :: a18 :: some (.int x) :: t) st) : vV p l e R s m args below meth c nL z0 D cells slots Q n ad g pc (a0 :: a1 :: a2 :: a3 :: a4 :: a5 :: a6 :: a7 :: a8 :: a9 :: a10 :: a11 :: a12 :: a13 :: a14 :: a15 :: a16 :: a17 :: a18 :: b :: t) (.int x :: st) := fun H locs ls hS hP hD hl => lv_istore X.1 X.2.1 d hl.lv hn rfl (fun ls' hl' => k H locs ls' hS hP hD (hasL.st1 hp (by simp) hl'))
theorem v_istore20 (X : vCx p s m args c cc own nL z0 D cy) {x : Int32} {a0 a1 a2 a3 a4 a5 a6 a7 a8 a9 a10 a11 a12 a13 a14 a15 a16 a17 a18 a19 b : Option Value} {t : List (Option Value)} (hp : noL (a0 :: a1 :: a2 :: a3 :: a4 :: a5 :: a6 :: a7 :: a8 :: a9 :: a10 :: a11 :: a12 :: a13 :: a14 :: a15 :: a16 :: a17 :: a18 :: a19 :: b :: t) 20 = true) (hn : 20 < nL) (d : decode cc pc = .ok (.istore 20, 2)) (k : vV p l e R s m args below meth c nL z0 D cells slots Q n ad g (pc + 2) (a0 :: a1 :: a2 :: a3 :: a4 :: a5 :: a6 :: a7 :: a8 :: a9 :: a10 :: a11 :: a12 :: a13 :: a14 :: a15 :: a16 :: a17 :: a18 :: a19 :: some (.int x) :: t) st) : vV p l e R s m args below meth c nL z0 D cells slots Q n ad g pc (a0 :: a1 :: a2 :: a3 :: a4 :: a5 :: a6 :: a7 :: a8 :: a9 :: a10 :: a11 :: a12 :: a13 :: a14 :: a15 :: a16 :: a17 :: a18 :: a19 :: b :: t) (.int x :: st) := fun H locs ls hS hP hD hl => lv_istore X.1 X.2.1 d hl.lv hn rfl (fun ls' hl' => k H locs ls' hS hP hD (hasL.st1 hp (by simp) hl'))
theorem v_istore21 (X : vCx p s m args c cc own nL z0 D cy) {x : Int32} {a0 a1 a2 a3 a4 a5 a6 a7 a8 a9 a10 a11 a12 a13 a14 a15 a16 a17 a18 a19 a20 b : Option Value} {t : List (Option Value)} (hp : noL (a0 :: a1 :: a2 :: a3 :: a4 :: a5 :: a6 :: a7 :: a8 :: a9 :: a10 :: a11 :: a12 :: a13 :: a14 :: a15 :: a16 :: a17 :: a18 :: a19 :: a20 :: b :: t) 21 = true) (hn : 21 < nL) (d : decode cc pc = .ok (.istore 21, 2)) (k : vV p l e R s m args below meth c nL z0 D cells slots Q n ad g (pc + 2) (a0 :: a1 :: a2 :: a3 :: a4 :: a5 :: a6 :: a7 :: a8 :: a9 :: a10 :: a11 :: a12 :: a13 :: a14 :: a15 :: a16 :: a17 :: a18 :: a19 :: a20 :: some (.int x) :: t) st) : vV p l e R s m args below meth c nL z0 D cells slots Q n ad g pc (a0 :: a1 :: a2 :: a3 :: a4 :: a5 :: a6 :: a7 :: a8 :: a9 :: a10 :: a11 :: a12 :: a13 :: a14 :: a15 :: a16 :: a17 :: a18 :: a19 :: a20 :: b :: t) (.int x :: st) := fun H locs ls hS hP hD hl => lv_istore X.1 X.2.1 d hl.lv hn rfl (fun ls' hl' => k H locs ls' hS hP hD (hasL.st1 hp (by simp) hl'))
theorem v_istore22 (X : vCx p s m args c cc own nL z0 D cy) {x : Int32} {a0 a1 a2 a3 a4 a5 a6 a7 a8 a9 a10 a11 a12 a13 a14 a15 a16 a17 a18 a19 a20 a21 b : Option Value} {t : List (Option Value)} (hp : noL (a0 :: a1 :: a2 :: a3 :: a4 :: a5 :: a6 :: a7 :: a8 :: a9 :: a10 :: a11 :: a12 :: a13 :: a14 :: a15 :: a16 :: a17 :: a18 :: a19 :: a20 :: a21 :: b :: t) 22 = true) (hn : 22 < nL) (d : decode cc pc = .ok (.istore 22, 2)) (k : vV p l e R s m args below meth c nL z0 D cells slots Q n ad g (pc + 2) (a0 :: a1 :: a2 :: a3 :: a4 :: a5 :: a6 :: a7 :: a8 :: a9 :: a10 :: a11 :: a12 :: a13 :: a14 :: a15 :: a16 :: a17 :: a18 :: a19 :: a20 :: a21 :: some (.int x) :: t) st) : vV p l e R s m args below meth c nL z0 D cells slots Q n ad g pc (a0 :: a1 :: a2 :: a3 :: a4 :: a5 :: a6 :: a7 :: a8 :: a9 :: a10 :: a11 :: a12 :: a13 :: a14 :: a15 :: a16 :: a17 :: a18 :: a19 :: a20 :: a21 :: b :: t) (.int x :: st) := fun H locs ls hS hP hD hl => lv_istore X.1 X.2.1 d hl.lv hn rfl (fun ls' hl' => k H locs ls' hS hP hD (hasL.st1 hp (by simp) hl'))
theorem v_istore23 (X : vCx p s m args c cc own nL z0 D cy) {x : Int32} {a0 a1 a2 a3 a4 a5 a6 a7 a8 a9 a10 a11 a12 a13 a14 a15 a16 a17 a18 a19 a20 a21 a22 b : Option Value} {t : List (Option Value)} (hp : noL (a0 :: a1 :: a2 :: a3 :: a4 :: a5 :: a6 :: a7 :: a8 :: a9 :: a10 :: a11 :: a12 :: a13 :: a14 :: a15 :: a16 :: a17 :: a18 :: a19 :: a20 :: a21 :: a22 :: b :: t) 23 = true) (hn : 23 < nL) (d : decode cc pc = .ok (.istore 23, 2)) (k : vV p l e R s m args below meth c nL z0 D cells slots Q n ad g (pc + 2) (a0 :: a1 :: a2 :: a3 :: a4 :: a5 :: a6 :: a7 :: a8 :: a9 :: a10 :: a11 :: a12 :: a13 :: a14 :: a15 :: a16 :: a17 :: a18 :: a19 :: a20 :: a21 :: a22 :: some (.int x) :: t) st) : vV p l e R s m args below meth c nL z0 D cells slots Q n ad g pc (a0 :: a1 :: a2 :: a3 :: a4 :: a5 :: a6 :: a7 :: a8 :: a9 :: a10 :: a11 :: a12 :: a13 :: a14 :: a15 :: a16 :: a17 :: a18 :: a19 :: a20 :: a21 :: a22 :: b :: t) (.int x :: st) := fun H locs ls hS hP hD hl => lv_istore X.1 X.2.1 d hl.lv hn rfl (fun ls' hl' => k H locs ls' hS hP hD (hasL.st1 hp (by simp) hl'))
theorem v_istore24 (X : vCx p s m args c cc own nL z0 D cy) {x : Int32} {a0 a1 a2 a3 a4 a5 a6 a7 a8 a9 a10 a11 a12 a13 a14 a15 a16 a17 a18 a19 a20 a21 a22 a23 b : Option Value} {t : List (Option Value)} (hp : noL (a0 :: a1 :: a2 :: a3 :: a4 :: a5 :: a6 :: a7 :: a8 :: a9 :: a10 :: a11 :: a12 :: a13 :: a14 :: a15 :: a16 :: a17 :: a18 :: a19 :: a20 :: a21 :: a22 :: a23 :: b :: t) 24 = true) (hn : 24 < nL) (d : decode cc pc = .ok (.istore 24, 2)) (k : vV p l e R s m args below meth c nL z0 D cells slots Q n ad g (pc + 2) (a0 :: a1 :: a2 :: a3 :: a4 :: a5 :: a6 :: a7 :: a8 :: a9 :: a10 :: a11 :: a12 :: a13 :: a14 :: a15 :: a16 :: a17 :: a18 :: a19 :: a20 :: a21 :: a22 :: a23 :: some (.int x) :: t) st) : vV p l e R s m args below meth c nL z0 D cells slots Q n ad g pc (a0 :: a1 :: a2 :: a3 :: a4 :: a5 :: a6 :: a7 :: a8 :: a9 :: a10 :: a11 :: a12 :: a13 :: a14 :: a15 :: a16 :: a17 :: a18 :: a19 :: a20 :: a21 :: a22 :: a23 :: b :: t) (.int x :: st) := fun H locs ls hS hP hD hl => lv_istore X.1 X.2.1 d hl.lv hn rfl (fun ls' hl' => k H locs ls' hS hP hD (hasL.st1 hp (by simp) hl'))
theorem v_istore25 (X : vCx p s m args c cc own nL z0 D cy) {x : Int32} {a0 a1 a2 a3 a4 a5 a6 a7 a8 a9 a10 a11 a12 a13 a14 a15 a16 a17 a18 a19 a20 a21 a22 a23 a24 b : Option Value} {t : List (Option Value)} (hp : noL (a0 :: a1 :: a2 :: a3 :: a4 :: a5 :: a6 :: a7 :: a8 :: a9 :: a10 :: a11 :: a12 :: a13 :: a14 :: a15 :: a16 :: a17 :: a18 :: a19 :: a20 :: a21 :: a22 :: a23 :: a24 :: b :: t) 25 = true) (hn : 25 < nL) (d : decode cc pc = .ok (.istore 25, 2)) (k : vV p l e R s m args below meth c nL z0 D cells slots Q n ad g (pc + 2) (a0 :: a1 :: a2 :: a3 :: a4 :: a5 :: a6 :: a7 :: a8 :: a9 :: a10 :: a11 :: a12 :: a13 :: a14 :: a15 :: a16 :: a17 :: a18 :: a19 :: a20 :: a21 :: a22 :: a23 :: a24 :: some (.int x) :: t) st) : vV p l e R s m args below meth c nL z0 D cells slots Q n ad g pc (a0 :: a1 :: a2 :: a3 :: a4 :: a5 :: a6 :: a7 :: a8 :: a9 :: a10 :: a11 :: a12 :: a13 :: a14 :: a15 :: a16 :: a17 :: a18 :: a19 :: a20 :: a21 :: a22 :: a23 :: a24 :: b :: t) (.int x :: st) := fun H locs ls hS hP hD hl => lv_istore X.1 X.2.1 d hl.lv hn rfl (fun ls' hl' => k H locs ls' hS hP hD (hasL.st1 hp (by simp) hl'))
theorem v_istore26 (X : vCx p s m args c cc own nL z0 D cy) {x : Int32} {a0 a1 a2 a3 a4 a5 a6 a7 a8 a9 a10 a11 a12 a13 a14 a15 a16 a17 a18 a19 a20 a21 a22 a23 a24 a25 b : Option Value} {t : List (Option Value)} (hp : noL (a0 :: a1 :: a2 :: a3 :: a4 :: a5 :: a6 :: a7 :: a8 :: a9 :: a10 :: a11 :: a12 :: a13 :: a14 :: a15 :: a16 :: a17 :: a18 :: a19 :: a20 :: a21 :: a22 :: a23 :: a24 :: a25 :: b :: t) 26 = true) (hn : 26 < nL) (d : decode cc pc = .ok (.istore 26, 2)) (k : vV p l e R s m args below meth c nL z0 D cells slots Q n ad g (pc + 2) (a0 :: a1 :: a2 :: a3 :: a4 :: a5 :: a6 :: a7 :: a8 :: a9 :: a10 :: a11 :: a12 :: a13 :: a14 :: a15 :: a16 :: a17 :: a18 :: a19 :: a20 :: a21 :: a22 :: a23 :: a24 :: a25 :: some (.int x) :: t) st) : vV p l e R s m args below meth c nL z0 D cells slots Q n ad g pc (a0 :: a1 :: a2 :: a3 :: a4 :: a5 :: a6 :: a7 :: a8 :: a9 :: a10 :: a11 :: a12 :: a13 :: a14 :: a15 :: a16 :: a17 :: a18 :: a19 :: a20 :: a21 :: a22 :: a23 :: a24 :: a25 :: b :: t) (.int x :: st) := fun H locs ls hS hP hD hl => lv_istore X.1 X.2.1 d hl.lv hn rfl (fun ls' hl' => k H locs ls' hS hP hD (hasL.st1 hp (by simp) hl'))
theorem v_istore27 (X : vCx p s m args c cc own nL z0 D cy) {x : Int32} {a0 a1 a2 a3 a4 a5 a6 a7 a8 a9 a10 a11 a12 a13 a14 a15 a16 a17 a18 a19 a20 a21 a22 a23 a24 a25 a26 b : Option Value} {t : List (Option Value)} (hp : noL (a0 :: a1 :: a2 :: a3 :: a4 :: a5 :: a6 :: a7 :: a8 :: a9 :: a10 :: a11 :: a12 :: a13 :: a14 :: a15 :: a16 :: a17 :: a18 :: a19 :: a20 :: a21 :: a22 :: a23 :: a24 :: a25 :: a26 :: b :: t) 27 = true) (hn : 27 < nL) (d : decode cc pc = .ok (.istore 27, 2)) (k : vV p l e R s m args below meth c nL z0 D cells slots Q n ad g (pc + 2) (a0 :: a1 :: a2 :: a3 :: a4 :: a5 :: a6 :: a7 :: a8 :: a9 :: a10 :: a11 :: a12 :: a13 :: a14 :: a15 :: a16 :: a17 :: a18 :: a19 :: a20 :: a21 :: a22 :: a23 :: a24 :: a25 :: a26 :: some (.int x) :: t) st) : vV p l e R s m args below meth c nL z0 D cells slots Q n ad g pc (a0 :: a1 :: a2 :: a3 :: a4 :: a5 :: a6 :: a7 :: a8 :: a9 :: a10 :: a11 :: a12 :: a13 :: a14 :: a15 :: a16 :: a17 :: a18 :: a19 :: a20 :: a21 :: a22 :: a23 :: a24 :: a25 :: a26 :: b :: t) (.int x :: st) := fun H locs ls hS hP hD hl => lv_istore X.1 X.2.1 d hl.lv hn rfl (fun ls' hl' => k H locs ls' hS hP hD (hasL.st1 hp (by simp) hl'))
theorem v_istore28 (X : vCx p s m args c cc own nL z0 D cy) {x : Int32} {a0 a1 a2 a3 a4 a5 a6 a7 a8 a9 a10 a11 a12 a13 a14 a15 a16 a17 a18 a19 a20 a21 a22 a23 a24 a25 a26 a27 b : Option Value} {t : List (Option Value)} (hp : noL (a0 :: a1 :: a2 :: a3 :: a4 :: a5 :: a6 :: a7 :: a8 :: a9 :: a10 :: a11 :: a12 :: a13 :: a14 :: a15 :: a16 :: a17 :: a18 :: a19 :: a20 :: a21 :: a22 :: a23 :: a24 :: a25 :: a26 :: a27 :: b :: t) 28 = true) (hn : 28 < nL) (d : decode cc pc = .ok (.istore 28, 2)) (k : vV p l e R s m args below meth c nL z0 D cells slots Q n ad g (pc + 2) (a0 :: a1 :: a2 :: a3 :: a4 :: a5 :: a6 :: a7 :: a8 :: a9 :: a10 :: a11 :: a12 :: a13 :: a14 :: a15 :: a16 :: a17 :: a18 :: a19 :: a20 :: a21 :: a22 :: a23 :: a24 :: a25 :: a26 :: a27 :: some (.int x) :: t) st) : vV p l e R s m args below meth c nL z0 D cells slots Q n ad g pc (a0 :: a1 :: a2 :: a3 :: a4 :: a5 :: a6 :: a7 :: a8 :: a9 :: a10 :: a11 :: a12 :: a13 :: a14 :: a15 :: a16 :: a17 :: a18 :: a19 :: a20 :: a21 :: a22 :: a23 :: a24 :: a25 :: a26 :: a27 :: b :: t) (.int x :: st) := fun H locs ls hS hP hD hl => lv_istore X.1 X.2.1 d hl.lv hn rfl (fun ls' hl' => k H locs ls' hS hP hD (hasL.st1 hp (by simp) hl'))
theorem v_istore29 (X : vCx p s m args c cc own nL z0 D cy) {x : Int32} {a0 a1 a2 a3 a4 a5 a6 a7 a8 a9 a10 a11 a12 a13 a14 a15 a16 a17 a18 a19 a20 a21 a22 a23 a24 a25 a26 a27 a28 b : Option Value} {t : List (Option Value)} (hp : noL (a0 :: a1 :: a2 :: a3 :: a4 :: a5 :: a6 :: a7 :: a8 :: a9 :: a10 :: a11 :: a12 :: a13 :: a14 :: a15 :: a16 :: a17 :: a18 :: a19 :: a20 :: a21 :: a22 :: a23 :: a24 :: a25 :: a26 :: a27 :: a28 :: b :: t) 29 = true) (hn : 29 < nL) (d : decode cc pc = .ok (.istore 29, 2)) (k : vV p l e R s m args below meth c nL z0 D cells slots Q n ad g (pc + 2) (a0 :: a1 :: a2 :: a3 :: a4 :: a5 :: a6 :: a7 :: a8 :: a9 :: a10 :: a11 :: a12 :: a13 :: a14 :: a15 :: a16 :: a17 :: a18 :: a19 :: a20 :: a21 :: a22 :: a23 :: a24 :: a25 :: a26 :: a27 :: a28 :: some (.int x) :: t) st) : vV p l e R s m args below meth c nL z0 D cells slots Q n ad g pc (a0 :: a1 :: a2 :: a3 :: a4 :: a5 :: a6 :: a7 :: a8 :: a9 :: a10 :: a11 :: a12 :: a13 :: a14 :: a15 :: a16 :: a17 :: a18 :: a19 :: a20 :: a21 :: a22 :: a23 :: a24 :: a25 :: a26 :: a27 :: a28 :: b :: t) (.int x :: st) := fun H locs ls hS hP hD hl => lv_istore X.1 X.2.1 d hl.lv hn rfl (fun ls' hl' => k H locs ls' hS hP hD (hasL.st1 hp (by simp) hl'))
theorem v_istore30 (X : vCx p s m args c cc own nL z0 D cy) {x : Int32} {a0 a1 a2 a3 a4 a5 a6 a7 a8 a9 a10 a11 a12 a13 a14 a15 a16 a17 a18 a19 a20 a21 a22 a23 a24 a25 a26 a27 a28 a29 b : Option Value} {t : List (Option Value)} (hp : noL (a0 :: a1 :: a2 :: a3 :: a4 :: a5 :: a6 :: a7 :: a8 :: a9 :: a10 :: a11 :: a12 :: a13 :: a14 :: a15 :: a16 :: a17 :: a18 :: a19 :: a20 :: a21 :: a22 :: a23 :: a24 :: a25 :: a26 :: a27 :: a28 :: a29 :: b :: t) 30 = true) (hn : 30 < nL) (d : decode cc pc = .ok (.istore 30, 2)) (k : vV p l e R s m args below meth c nL z0 D cells slots Q n ad g (pc + 2) (a0 :: a1 :: a2 :: a3 :: a4 :: a5 :: a6 :: a7 :: a8 :: a9 :: a10 :: a11 :: a12 :: a13 :: a14 :: a15 :: a16 :: a17 :: a18 :: a19 :: a20 :: a21 :: a22 :: a23 :: a24 :: a25 :: a26 :: a27 :: a28 :: a29 :: some (.int x) :: t) st) : vV p l e R s m args below meth c nL z0 D cells slots Q n ad g pc (a0 :: a1 :: a2 :: a3 :: a4 :: a5 :: a6 :: a7 :: a8 :: a9 :: a10 :: a11 :: a12 :: a13 :: a14 :: a15 :: a16 :: a17 :: a18 :: a19 :: a20 :: a21 :: a22 :: a23 :: a24 :: a25 :: a26 :: a27 :: a28 :: a29 :: b :: t) (.int x :: st) := fun H locs ls hS hP hD hl => lv_istore X.1 X.2.1 d hl.lv hn rfl (fun ls' hl' => k H locs ls' hS hP hD (hasL.st1 hp (by simp) hl'))
theorem v_astore0 (X : vCx p s m args c cc own nL z0 D cy) {x : Nat} { b : Option Value} {t : List (Option Value)} (hp : noL (b :: t) 0 = true) (hn : 0 < nL) (d : decode cc pc = .ok (.astore_n 0, 1)) (k : vV p l e R s m args below meth c nL z0 D cells slots Q n ad g (pc + 1) (some (.ref x) :: t) st) : vV p l e R s m args below meth c nL z0 D cells slots Q n ad g pc (b :: t) (.ref x :: st) := fun H locs ls hS hP hD hl => lv_astore_n X.1 X.2.1 d rfl hl.lv hn rfl (fun ls' hl' => k H locs ls' hS hP hD (hasL.st1 hp (by simp) hl'))
theorem v_astore1 (X : vCx p s m args c cc own nL z0 D cy) {x : Nat} {a0 b : Option Value} {t : List (Option Value)} (hp : noL (a0 :: b :: t) 1 = true) (hn : 1 < nL) (d : decode cc pc = .ok (.astore_n 1, 1)) (k : vV p l e R s m args below meth c nL z0 D cells slots Q n ad g (pc + 1) (a0 :: some (.ref x) :: t) st) : vV p l e R s m args below meth c nL z0 D cells slots Q n ad g pc (a0 :: b :: t) (.ref x :: st) := fun H locs ls hS hP hD hl => lv_astore_n X.1 X.2.1 d rfl hl.lv hn rfl (fun ls' hl' => k H locs ls' hS hP hD (hasL.st1 hp (by simp) hl'))
theorem v_astore2 (X : vCx p s m args c cc own nL z0 D cy) {x : Nat} {a0 a1 b : Option Value} {t : List (Option Value)} (hp : noL (a0 :: a1 :: b :: t) 2 = true) (hn : 2 < nL) (d : decode cc pc = .ok (.astore_n 2, 1)) (k : vV p l e R s m args below meth c nL z0 D cells slots Q n ad g (pc + 1) (a0 :: a1 :: some (.ref x) :: t) st) : vV p l e R s m args below meth c nL z0 D cells slots Q n ad g pc (a0 :: a1 :: b :: t) (.ref x :: st) := fun H locs ls hS hP hD hl => lv_astore_n X.1 X.2.1 d rfl hl.lv hn rfl (fun ls' hl' => k H locs ls' hS hP hD (hasL.st1 hp (by simp) hl'))
theorem v_astore3 (X : vCx p s m args c cc own nL z0 D cy) {x : Nat} {a0 a1 a2 b : Option Value} {t : List (Option Value)} (hp : noL (a0 :: a1 :: a2 :: b :: t) 3 = true) (hn : 3 < nL) (d : decode cc pc = .ok (.astore_n 3, 1)) (k : vV p l e R s m args below meth c nL z0 D cells slots Q n ad g (pc + 1) (a0 :: a1 :: a2 :: some (.ref x) :: t) st) : vV p l e R s m args below meth c nL z0 D cells slots Q n ad g pc (a0 :: a1 :: a2 :: b :: t) (.ref x :: st) := fun H locs ls hS hP hD hl => lv_astore_n X.1 X.2.1 d rfl hl.lv hn rfl (fun ls' hl' => k H locs ls' hS hP hD (hasL.st1 hp (by simp) hl'))
theorem v_astore4 (X : vCx p s m args c cc own nL z0 D cy) {x : Nat} {a0 a1 a2 a3 b : Option Value} {t : List (Option Value)} (hp : noL (a0 :: a1 :: a2 :: a3 :: b :: t) 4 = true) (hn : 4 < nL) (d : decode cc pc = .ok (.astore 4, 2)) (k : vV p l e R s m args below meth c nL z0 D cells slots Q n ad g (pc + 2) (a0 :: a1 :: a2 :: a3 :: some (.ref x) :: t) st) : vV p l e R s m args below meth c nL z0 D cells slots Q n ad g pc (a0 :: a1 :: a2 :: a3 :: b :: t) (.ref x :: st) := fun H locs ls hS hP hD hl => lv_astore X.1 X.2.1 d hl.lv hn rfl (fun ls' hl' => k H locs ls' hS hP hD (hasL.st1 hp (by simp) hl'))
theorem v_astore5 (X : vCx p s m args c cc own nL z0 D cy) {x : Nat} {a0 a1 a2 a3 a4 b : Option Value} {t : List (Option Value)} (hp : noL (a0 :: a1 :: a2 :: a3 :: a4 :: b :: t) 5 = true) (hn : 5 < nL) (d : decode cc pc = .ok (.astore 5, 2)) (k : vV p l e R s m args below meth c nL z0 D cells slots Q n ad g (pc + 2) (a0 :: a1 :: a2 :: a3 :: a4 :: some (.ref x) :: t) st) : vV p l e R s m args below meth c nL z0 D cells slots Q n ad g pc (a0 :: a1 :: a2 :: a3 :: a4 :: b :: t) (.ref x :: st) := fun H locs ls hS hP hD hl => lv_astore X.1 X.2.1 d hl.lv hn rfl (fun ls' hl' => k H locs ls' hS hP hD (hasL.st1 hp (by simp) hl'))
theorem v_astore6 (X : vCx p s m args c cc own nL z0 D cy) {x : Nat} {a0 a1 a2 a3 a4 a5 b : Option Value} {t : List (Option Value)} (hp : noL (a0 :: a1 :: a2 :: a3 :: a4 :: a5 :: b :: t) 6 = true) (hn : 6 < nL) (d : decode cc pc = .ok (.astore 6, 2)) (k : vV p l e R s m args below meth c nL z0 D cells slots Q n ad g (pc + 2) (a0 :: a1 :: a2 :: a3 :: a4 :: a5 :: some (.ref x) :: t) st) : vV p l e R s m args below meth c nL z0 D cells slots Q n ad g pc (a0 :: a1 :: a2 :: a3 :: a4 :: a5 :: b :: t) (.ref x :: st) := fun H locs ls hS hP hD hl => lv_astore X.1 X.2.1 d hl.lv hn rfl (fun ls' hl' => k H locs ls' hS hP hD (hasL.st1 hp (by simp) hl'))
theorem v_astore7 (X : vCx p s m args c cc own nL z0 D cy) {x : Nat} {a0 a1 a2 a3 a4 a5 a6 b : Option Value} {t : List (Option Value)} (hp : noL (a0 :: a1 :: a2 :: a3 :: a4 :: a5 :: a6 :: b :: t) 7 = true) (hn : 7 < nL) (d : decode cc pc = .ok (.astore 7, 2)) (k : vV p l e R s m args below meth c nL z0 D cells slots Q n ad g (pc + 2) (a0 :: a1 :: a2 :: a3 :: a4 :: a5 :: a6 :: some (.ref x) :: t) st) : vV p l e R s m args below meth c nL z0 D cells slots Q n ad g pc (a0 :: a1 :: a2 :: a3 :: a4 :: a5 :: a6 :: b :: t) (.ref x :: st) := fun H locs ls hS hP hD hl => lv_astore X.1 X.2.1 d hl.lv hn rfl (fun ls' hl' => k H locs ls' hS hP hD (hasL.st1 hp (by simp) hl'))
theorem v_astore8 (X : vCx p s m args c cc own nL z0 D cy) {x : Nat} {a0 a1 a2 a3 a4 a5 a6 a7 b : Option Value} {t : List (Option Value)} (hp : noL (a0 :: a1 :: a2 :: a3 :: a4 :: a5 :: a6 :: a7 :: b :: t) 8 = true) (hn : 8 < nL) (d : decode cc pc = .ok (.astore 8, 2)) (k : vV p l e R s m args below meth c nL z0 D cells slots Q n ad g (pc + 2) (a0 :: a1 :: a2 :: a3 :: a4 :: a5 :: a6 :: a7 :: some (.ref x) :: t) st) : vV p l e R s m args below meth c nL z0 D cells slots Q n ad g pc (a0 :: a1 :: a2 :: a3 :: a4 :: a5 :: a6 :: a7 :: b :: t) (.ref x :: st) := fun H locs ls hS hP hD hl => lv_astore X.1 X.2.1 d hl.lv hn rfl (fun ls' hl' => k H locs ls' hS hP hD (hasL.st1 hp (by simp) hl'))
theorem v_astore9 (X : vCx p s m args c cc own nL z0 D cy) {x : Nat} {a0 a1 a2 a3 a4 a5 a6 a7 a8 b : Option Value} {t : List (Option Value)} (hp : noL (a0 :: a1 :: a2 :: a3 :: a4 :: a5 :: a6 :: a7 :: a8 :: b :: t) 9 = true) (hn : 9 < nL) (d : decode cc pc = .ok (.astore 9, 2)) (k : vV p l e R s m args below meth c nL z0 D cells slots Q n ad g (pc + 2) (a0 :: a1 :: a2 :: a3 :: a4 :: a5 :: a6 :: a7 :: a8 :: some (.ref x) :: t) st) : vV p l e R s m args below meth c nL z0 D cells slots Q n ad g pc (a0 :: a1 :: a2 :: a3 :: a4 :: a5 :: a6 :: a7 :: a8 :: b :: t) (.ref x :: st) := fun H locs ls hS hP hD hl => lv_astore X.1 X.2.1 d hl.lv hn rfl (fun ls' hl' => k H locs ls' hS hP hD (hasL.st1 hp (by simp) hl'))
theorem v_astore10 (X : vCx p s m args c cc own nL z0 D cy) {x : Nat} {a0 a1 a2 a3 a4 a5 a6 a7 a8 a9 b : Option Value} {t : List (Option Value)} (hp : noL (a0 :: a1 :: a2 :: a3 :: a4 :: a5 :: a6 :: a7 :: a8 :: a9 :: b :: t) 10 = true) (hn : 10 < nL) (d : decode cc pc = .ok (.astore 10, 2)) (k : vV p l e R s m args below meth c nL z0 D cells slots Q n ad g (pc + 2) (a0 :: a1 :: a2 :: a3 :: a4 :: a5 :: a6 :: a7 :: a8 :: a9 :: some (.ref x) :: t) st) : vV p l e R s m args below meth c nL z0 D cells slots Q n ad g pc (a0 :: a1 :: a2 :: a3 :: a4 :: a5 :: a6 :: a7 :: a8 :: a9 :: b :: t) (.ref x :: st) := fun H locs ls hS hP hD hl => lv_astore X.1 X.2.1 d hl.lv hn rfl (fun ls' hl' => k H locs ls' hS hP hD (hasL.st1 hp (by simp) hl'))
theorem v_astore11 (X : vCx p s m args c cc own nL z0 D cy) {x : Nat} {a0 a1 a2 a3 a4 a5 a6 a7 a8 a9 a10 b : Option Value} {t : List (Option Value)} (hp : noL (a0 :: a1 :: a2 :: a3 :: a4 :: a5 :: a6 :: a7 :: a8 :: a9 :: a10 :: b :: t) 11 = true) (hn : 11 < nL) (d : decode cc pc = .ok (.astore 11, 2)) (k : vV p l e R s m args below meth c nL z0 D cells slots Q n ad g (pc + 2) (a0 :: a1 :: a2 :: a3 :: a4 :: a5 :: a6 :: a7 :: a8 :: a9 :: a10 :: some (.ref x) :: t) st) : vV p l e R s m args below meth c nL z0 D cells slots Q n ad g pc (a0 :: a1 :: a2 :: a3 :: a4 :: a5 :: a6 :: a7 :: a8 :: a9 :: a10 :: b :: t) (.ref x :: st) := fun H locs ls hS hP hD hl => lv_astore X.1 X.2.1 d hl.lv hn rfl (fun ls' hl' => k H locs ls' hS hP hD (hasL.st1 hp (by simp) hl'))
theorem v_astore12 (X : vCx p s m args c cc own nL z0 D cy) {x : Nat} {a0 a1 a2 a3 a4 a5 a6 a7 a8 a9 a10 a11 b : Option Value} {t : List (Option Value)} (hp : noL (a0 :: a1 :: a2 :: a3 :: a4 :: a5 :: a6 :: a7 :: a8 :: a9 :: a10 :: a11 :: b :: t) 12 = true) (hn : 12 < nL) (d : decode cc pc = .ok (.astore 12, 2)) (k : vV p l e R s m args below meth c nL z0 D cells slots Q n ad g (pc + 2) (a0 :: a1 :: a2 :: a3 :: a4 :: a5 :: a6 :: a7 :: a8 :: a9 :: a10 :: a11 :: some (.ref x) :: t) st) : vV p l e R s m args below meth c nL z0 D cells slots Q n ad g pc (a0 :: a1 :: a2 :: a3 :: a4 :: a5 :: a6 :: a7 :: a8 :: a9 :: a10 :: a11 :: b :: t) (.ref x :: st) := fun H locs ls hS hP hD hl => lv_astore X.1 X.2.1 d hl.lv hn rfl (fun ls' hl' => k H locs ls' hS hP hD (hasL.st1 hp (by simp) hl'))
theorem v_astore13 (X : vCx p s m args c cc own nL z0 D cy) {x : Nat} {a0 a1 a2 a3 a4 a5 a6 a7 a8 a9 a10 a11 a12 b : Option Value} {t : List (Option Value)} (hp : noL (a0 :: a1 :: a2 :: a3 :: a4 :: a5 :: a6 :: a7 :: a8 :: a9 :: a10 :: a11 :: a12 :: b :: t) 13 = true) (hn : 13 < nL) (d : decode cc pc = .ok (.astore 13, 2)) (k : vV p l e R s m args below meth c nL z0 D cells slots Q n ad g (pc + 2) (a0 :: a1 :: a2 :: a3 :: a4 :: a5 :: a6 :: a7 :: a8 :: a9 :: a10 :: a11 :: a12 :: some (.ref x) :: t) st) : vV p l e R s m args below meth c nL z0 D cells slots Q n ad g pc (a0 :: a1 :: a2 :: a3 :: a4 :: a5 :: a6 :: a7 :: a8 :: a9 :: a10 :: a11 :: a12 :: b :: t) (.ref x :: st) := fun H locs ls hS hP hD hl => lv_astore X.1 X.2.1 d hl.lv hn rfl (fun ls' hl' => k H locs ls' hS hP hD (hasL.st1 hp (by simp) hl'))
theorem v_astore14 (X : vCx p s m args c cc own nL z0 D cy) {x : Nat} {a0 a1 a2 a3 a4 a5 a6 a7 a8 a9 a10 a11 a12 a13 b : Option Value} {t : List (Option Value)} (hp : noL (a0 :: a1 :: a2 :: a3 :: a4 :: a5 :: a6 :: a7 :: a8 :: a9 :: a10 :: a11 :: a12 :: a13 :: b :: t) 14 = true) (hn : 14 < nL) (d : decode cc pc = .ok (.astore 14, 2)) (k : vV p l e R s m args below meth c nL z0 D cells slots Q n ad g (pc + 2) (a0 :: a1 :: a2 :: a3 :: a4 :: a5 :: a6 :: a7 :: a8 :: a9 :: a10 :: a11 :: a12 :: a13 :: some (.ref x) :: t) st) : vV p l e R s m args below meth c nL z0 D cells slots Q n ad g pc (a0 :: a1 :: a2 :: a3 :: a4 :: a5 :: a6 :: a7 :: a8 :: a9 :: a10 :: a11 :: a12 :: a13 :: b :: t) (.ref x :: st) := fun H locs ls hS hP hD hl => lv_astore X.1 X.2.1 d hl.lv hn rfl (fun ls' hl' => k H locs ls' hS hP hD (hasL.st1 hp (by simp) hl'))
theorem v_astore15 (X : vCx p s m args c cc own nL z0 D cy) {x : Nat} {a0 a1 a2 a3 a4 a5 a6 a7 a8 a9 a10 a11 a12 a13 a14 b : Option Value} {t : List (Option Value)} (hp : noL (a0 :: a1 :: a2 :: a3 :: a4 :: a5 :: a6 :: a7 :: a8 :: a9 :: a10 :: a11 :: a12 :: a13 :: a14 :: b :: t) 15 = true) (hn : 15 < nL) (d : decode cc pc = .ok (.astore 15, 2)) (k : vV p l e R s m args below meth c nL z0 D cells slots Q n ad g (pc + 2) (a0 :: a1 :: a2 :: a3 :: a4 :: a5 :: a6 :: a7 :: a8 :: a9 :: a10 :: a11 :: a12 :: a13 :: a14 :: some (.ref x) :: t) st) : vV p l e R s m args below meth c nL z0 D cells slots Q n ad g pc (a0 :: a1 :: a2 :: a3 :: a4 :: a5 :: a6 :: a7 :: a8 :: a9 :: a10 :: a11 :: a12 :: a13 :: a14 :: b :: t) (.ref x :: st) := fun H locs ls hS hP hD hl => lv_astore X.1 X.2.1 d hl.lv hn rfl (fun ls' hl' => k H locs ls' hS hP hD (hasL.st1 hp (by simp) hl'))
theorem v_astore16 (X : vCx p s m args c cc own nL z0 D cy) {x : Nat} {a0 a1 a2 a3 a4 a5 a6 a7 a8 a9 a10 a11 a12 a13 a14 a15 b : Option Value} {t : List (Option Value)} (hp : noL (a0 :: a1 :: a2 :: a3 :: a4 :: a5 :: a6 :: a7 :: a8 :: a9 :: a10 :: a11 :: a12 :: a13 :: a14 :: a15 :: b :: t) 16 = true) (hn : 16 < nL) (d : decode cc pc = .ok (.astore 16, 2)) (k : vV p l e R s m args below meth c nL z0 D cells slots Q n ad g (pc + 2) (a0 :: a1 :: a2 :: a3 :: a4 :: a5 :: a6 :: a7 :: a8 :: a9 :: a10 :: a11 :: a12 :: a13 :: a14 :: a15 :: some (.ref x) :: t) st) : vV p l e R s m args below meth c nL z0 D cells slots Q n ad g pc (a0 :: a1 :: a2 :: a3 :: a4 :: a5 :: a6 :: a7 :: a8 :: a9 :: a10 :: a11 :: a12 :: a13 :: a14 :: a15 :: b :: t) (.ref x :: st) := fun H locs ls hS hP hD hl => lv_astore X.1 X.2.1 d hl.lv hn rfl (fun ls' hl' => k H locs ls' hS hP hD (hasL.st1 hp (by simp) hl'))
theorem v_astore17 (X : vCx p s m args c cc own nL z0 D cy) {x : Nat} {a0 a1 a2 a3 a4 a5 a6 a7 a8 a9 a10 a11 a12 a13 a14 a15 a16 b : Option Value} {t : List (Option Value)} (hp : noL (a0 :: a1 :: a2 :: a3 :: a4 :: a5 :: a6 :: a7 :: a8 :: a9 :: a10 :: a11 :: a12 :: a13 :: a14 :: a15 :: a16 :: b :: t) 17 = true) (hn : 17 < nL) (d : decode cc pc = .ok (.astore 17, 2)) (k : vV p l e R s m args below meth c nL z0 D cells slots Q n ad g (pc + 2) (a0 :: a1 :: a2 :: a3 :: a4 :: a5 :: a6 :: a7 :: a8 :: a9 :: a10 :: a11 :: a12 :: a13 :: a14 :: a15 :: a16 :: some (.ref x) :: t) st) : vV p l e R s m args below meth c nL z0 D cells slots Q n ad g pc (a0 :: a1 :: a2 :: a3 :: a4 :: a5 :: a6 :: a7 :: a8 :: a9 :: a10 :: a11 :: a12 :: a13 :: a14 :: a15 :: a16 :: b :: t) (.ref x :: st) := fun H locs ls hS hP hD hl => lv_astore X.1 X.2.1 d hl.lv hn rfl (fun ls' hl' => k H locs ls' hS hP hD (hasL.st1 hp (by simp) hl'))
theorem v_astore18 (X : vCx p s m args c cc own nL z0 D cy) {x : Nat} {a0 a1 a2 a3 a4 a5 a6 a7 a8 a9 a10 a11 a12 a13 a14 a15 a16 a17 b : Option Value} {t : List (Option Value)} (hp : noL (a0 :: a1 :: a2 :: a3 :: a4 :: a5 :: a6 :: a7 :: a8 :: a9 :: a10 :: a11 :: a12 :: a13 :: a14 :: a15 :: a16 :: a17 :: b :: t) 18 = true) (hn : 18 < nL) (d : decode cc pc = .ok (.astore 18, 2)) (k : vV p l e R s m args below meth c nL z0 D cells slots Q n ad g (pc + 2) (a0 :: a1 :: a2 :: a3 :: a4 :: a5 :: a6 :: a7 :: a8 :: a9 :: a10 :: a11 :: a12 :: a13 :: a14 :: a15 :: a16 :: a17 :: some (.ref x) :: t) st) : vV p l e R s m args below meth c nL z0 D cells slots Q n ad g pc (a0 :: a1 :: a2 :: a3 :: a4 :: a5 :: a6 :: a7 :: a8 :: a9 :: a10 :: a11 :: a12 :: a13 :: a14 :: a15 :: a16 :: a17 :: b :: t) (.ref x :: st) := fun H locs ls hS hP hD hl => lv_astore X.1 X.2.1 d hl.lv hn rfl (fun ls' hl' => k H locs ls' hS hP hD (hasL.st1 hp (by simp) hl'))
theorem v_astore19 (X : vCx p s m args c cc own nL z0 D cy) {x : Nat} {a0 a1 a2 a3 a4 a5 a6 a7 a8 a9 a10 a11 a12 a13 a14 a15 a16 a17 a18 b : Option Value} {t : List (Option Value)} (hp : noL (a0 :: a1 :: a2 :: a3 :: a4 :: a5 :: a6 :: a7 :: a8 :: a9 :: a10 :: a11 :: a12 :: a13 :: a14 :: a15 :: a16 :: a17 :: a18 :: b :: t) 19 = true) (hn : 19 < nL) (d : decode cc pc = .ok (.astore 19, 2)) (k : vV p l e R s m args below meth c nL z0 D cells slots Q n ad g (pc + 2) (a0 :: a1 :: a2 :: a3 :: a4 :: a5 :: a6 :: a7 :: a8 :: a9 :: a10 :: a11 :: a12 :: a13 :: a14 :: a15 :: a16 :: a17 :: a18 :: some (.ref x) :: t) st) : vV p l e R s m args below meth c nL z0 D cells slots Q n ad g pc (a0 :: a1 :: a2 :: a3 :: a4 :: a5 :: a6 :: a7 :: a8 :: a9 :: a10 :: a11 :: a12 :: a13 :: a14 :: a15 :: a16 :: a17 :: a18 :: b :: t) (.ref x :: st) := fun H locs ls hS hP hD hl => lv_astore X.1 X.2.1 d hl.lv hn rfl (fun ls' hl' => k H locs ls' hS hP hD (hasL.st1 hp (by simp) hl'))
theorem v_astore20 (X : vCx p s m args c cc own nL z0 D cy) {x : Nat} {a0 a1 a2 a3 a4 a5 a6 a7 a8 a9 a10 a11 a12 a13 a14 a15 a16 a17 a18 a19 b : Option Value} {t : List (Option Value)} (hp : noL (a0 :: a1 :: a2 :: a3 :: a4 :: a5 :: a6 :: a7 :: a8 :: a9 :: a10 :: a11 :: a12 :: a13 :: a14 :: a15 :: a16 :: a17 :: a18 :: a19 :: b :: t) 20 = true) (hn : 20 < nL) (d : decode cc pc = .ok (.astore 20, 2)) (k : vV p l e R s m args below meth c nL z0 D cells slots Q n ad g (pc + 2) (a0 :: a1 :: a2 :: a3 :: a4 :: a5 :: a6 :: a7 :: a8 :: a9 :: a10 :: a11 :: a12 :: a13 :: a14 :: a15 :: a16 :: a17 :: a18 :: a19 :: some (.ref x) :: t) st) : vV p l e R s m args below meth c nL z0 D cells slots Q n ad g pc (a0 :: a1 :: a2 :: a3 :: a4 :: a5 :: a6 :: a7 :: a8 :: a9 :: a10 :: a11 :: a12 :: a13 :: a14 :: a15 :: a16 :: a17 :: a18 :: a19 :: b :: t) (.ref x :: st) := fun H locs ls hS hP hD hl => lv_astore X.1 X.2.1 d hl.lv hn rfl (fun ls' hl' => k H locs ls' hS hP hD (hasL.st1 hp (by simp) hl'))
theorem v_astore21 (X : vCx p s m args c cc own nL z0 D cy) {x : Nat} {a0 a1 a2 a3 a4 a5 a6 a7 a8 a9 a10 a11 a12 a13 a14 a15 a16 a17 a18 a19 a20 b : Option Value} {t : List (Option Value)} (hp : noL (a0 :: a1 :: a2 :: a3 :: a4 :: a5 :: a6 :: a7 :: a8 :: a9 :: a10 :: a11 :: a12 :: a13 :: a14 :: a15 :: a16 :: a17 :: a18 :: a19 :: a20 :: b :: t) 21 = true) (hn : 21 < nL) (d : decode cc pc = .ok (.astore 21, 2)) (k : vV p l e R s m args below meth c nL z0 D cells slots Q n ad g (pc + 2) (a0 :: a1 :: a2 :: a3 :: a4 :: a5 :: a6 :: a7 :: a8 :: a9 :: a10 :: a11 :: a12 :: a13 :: a14 :: a15 :: a16 :: a17 :: a18 :: a19 :: a20 :: some (.ref x) :: t) st) : vV p l e R s m args below meth c nL z0 D cells slots Q n ad g pc (a0 :: a1 :: a2 :: a3 :: a4 :: a5 :: a6 :: a7 :: a8 :: a9 :: a10 :: a11 :: a12 :: a13 :: a14 :: a15 :: a16 :: a17 :: a18 :: a19 :: a20 :: b :: t) (.ref x :: st) := fun H locs ls hS hP hD hl => lv_astore X.1 X.2.1 d hl.lv hn rfl (fun ls' hl' => k H locs ls' hS hP hD (hasL.st1 hp (by simp) hl'))
theorem v_astore22 (X : vCx p s m args c cc own nL z0 D cy) {x : Nat} {a0 a1 a2 a3 a4 a5 a6 a7 a8 a9 a10 a11 a12 a13 a14 a15 a16 a17 a18 a19 a20 a21 b : Option Value} {t : List (Option Value)} (hp : noL (a0 :: a1 :: a2 :: a3 :: a4 :: a5 :: a6 :: a7 :: a8 :: a9 :: a10 :: a11 :: a12 :: a13 :: a14 :: a15 :: a16 :: a17 :: a18 :: a19 :: a20 :: a21 :: b :: t) 22 = true) (hn : 22 < nL) (d : decode cc pc = .ok (.astore 22, 2)) (k : vV p l e R s m args below meth c nL z0 D cells slots Q n ad g (pc + 2) (a0 :: a1 :: a2 :: a3 :: a4 :: a5 :: a6 :: a7 :: a8 :: a9 :: a10 :: a11 :: a12 :: a13 :: a14 :: a15 :: a16 :: a17 :: a18 :: a19 :: a20 :: a21 :: some (.ref x) :: t) st) : vV p l e R s m args below meth c nL z0 D cells slots Q n ad g pc (a0 :: a1 :: a2 :: a3 :: a4 :: a5 :: a6 :: a7 :: a8 :: a9 :: a10 :: a11 :: a12 :: a13 :: a14 :: a15 :: a16 :: a17 :: a18 :: a19 :: a20 :: a21 :: b :: t) (.ref x :: st) := fun H locs ls hS hP hD hl => lv_astore X.1 X.2.1 d hl.lv hn rfl (fun ls' hl' => k H locs ls' hS hP hD (hasL.st1 hp (by simp) hl'))
theorem v_astore23 (X : vCx p s m args c cc own nL z0 D cy) {x : Nat} {a0 a1 a2 a3 a4 a5 a6 a7 a8 a9 a10 a11 a12 a13 a14 a15 a16 a17 a18 a19 a20 a21 a22 b : Option Value} {t : List (Option Value)} (hp : noL (a0 :: a1 :: a2 :: a3 :: a4 :: a5 :: a6 :: a7 :: a8 :: a9 :: a10 :: a11 :: a12 :: a13 :: a14 :: a15 :: a16 :: a17 :: a18 :: a19 :: a20 :: a21 :: a22 :: b :: t) 23 = true) (hn : 23 < nL) (d : decode cc pc = .ok (.astore 23, 2)) (k : vV p l e R s m args below meth c nL z0 D cells slots Q n ad g (pc + 2) (a0 :: a1 :: a2 :: a3 :: a4 :: a5 :: a6 :: a7 :: a8 :: a9 :: a10 :: a11 :: a12 :: a13 :: a14 :: a15 :: a16 :: a17 :: a18 :: a19 :: a20 :: a21 :: a22 :: some (.ref x) :: t) st) : vV p l e R s m args below meth c nL z0 D cells slots Q n ad g pc (a0 :: a1 :: a2 :: a3 :: a4 :: a5 :: a6 :: a7 :: a8 :: a9 :: a10 :: a11 :: a12 :: a13 :: a14 :: a15 :: a16 :: a17 :: a18 :: a19 :: a20 :: a21 :: a22 :: b :: t) (.ref x :: st) := fun H locs ls hS hP hD hl => lv_astore X.1 X.2.1 d hl.lv hn rfl (fun ls' hl' => k H locs ls' hS hP hD (hasL.st1 hp (by simp) hl'))
theorem v_astore24 (X : vCx p s m args c cc own nL z0 D cy) {x : Nat} {a0 a1 a2 a3 a4 a5 a6 a7 a8 a9 a10 a11 a12 a13 a14 a15 a16 a17 a18 a19 a20 a21 a22 a23 b : Option Value} {t : List (Option Value)} (hp : noL (a0 :: a1 :: a2 :: a3 :: a4 :: a5 :: a6 :: a7 :: a8 :: a9 :: a10 :: a11 :: a12 :: a13 :: a14 :: a15 :: a16 :: a17 :: a18 :: a19 :: a20 :: a21 :: a22 :: a23 :: b :: t) 24 = true) (hn : 24 < nL) (d : decode cc pc = .ok (.astore 24, 2)) (k : vV p l e R s m args below meth c nL z0 D cells slots Q n ad g (pc + 2) (a0 :: a1 :: a2 :: a3 :: a4 :: a5 :: a6 :: a7 :: a8 :: a9 :: a10 :: a11 :: a12 :: a13 :: a14 :: a15 :: a16 :: a17 :: a18 :: a19 :: a20 :: a21 :: a22 :: a23 :: some (.ref x) :: t) st) : vV p l e R s m args below meth c nL z0 D cells slots Q n ad g pc (a0 :: a1 :: a2 :: a3 :: a4 :: a5 :: a6 :: a7 :: a8 :: a9 :: a10 :: a11 :: a12 :: a13 :: a14 :: a15 :: a16 :: a17 :: a18 :: a19 :: a20 :: a21 :: a22 :: a23 :: b :: t) (.ref x :: st) := fun H locs ls hS hP hD hl => lv_astore X.1 X.2.1 d hl.lv hn rfl (fun ls' hl' => k H locs ls' hS hP hD (hasL.st1 hp (by simp) hl'))
theorem v_astore25 (X : vCx p s m args c cc own nL z0 D cy) {x : Nat} {a0 a1 a2 a3 a4 a5 a6 a7 a8 a9 a10 a11 a12 a13 a14 a15 a16 a17 a18 a19 a20 a21 a22 a23 a24 b : Option Value} {t : List (Option Value)} (hp : noL (a0 :: a1 :: a2 :: a3 :: a4 :: a5 :: a6 :: a7 :: a8 :: a9 :: a10 :: a11 :: a12 :: a13 :: a14 :: a15 :: a16 :: a17 :: a18 :: a19 :: a20 :: a21 :: a22 :: a23 :: a24 :: b :: t) 25 = true) (hn : 25 < nL) (d : decode cc pc = .ok (.astore 25, 2)) (k : vV p l e R s m args below meth c nL z0 D cells slots Q n ad g (pc + 2) (a0 :: a1 :: a2 :: a3 :: a4 :: a5 :: a6 :: a7 :: a8 :: a9 :: a10 :: a11 :: a12 :: a13 :: a14 :: a15 :: a16 :: a17 :: a18 :: a19 :: a20 :: a21 :: a22 :: a23 :: a24 :: some (.ref x) :: t) st) : vV p l e R s m args below meth c nL z0 D cells slots Q n ad g pc (a0 :: a1 :: a2 :: a3 :: a4 :: a5 :: a6 :: a7 :: a8 :: a9 :: a10 :: a11 :: a12 :: a13 :: a14 :: a15 :: a16 :: a17 :: a18 :: a19 :: a20 :: a21 :: a22 :: a23 :: a24 :: b :: t) (.ref x :: st) := fun H locs ls hS hP hD hl => lv_astore X.1 X.2.1 d hl.lv hn rfl (fun ls' hl' => k H locs ls' hS hP hD (hasL.st1 hp (by simp) hl'))
theorem v_astore26 (X : vCx p s m args c cc own nL z0 D cy) {x : Nat} {a0 a1 a2 a3 a4 a5 a6 a7 a8 a9 a10 a11 a12 a13 a14 a15 a16 a17 a18 a19 a20 a21 a22 a23 a24 a25 b : Option Value} {t : List (Option Value)} (hp : noL (a0 :: a1 :: a2 :: a3 :: a4 :: a5 :: a6 :: a7 :: a8 :: a9 :: a10 :: a11 :: a12 :: a13 :: a14 :: a15 :: a16 :: a17 :: a18 :: a19 :: a20 :: a21 :: a22 :: a23 :: a24 :: a25 :: b :: t) 26 = true) (hn : 26 < nL) (d : decode cc pc = .ok (.astore 26, 2)) (k : vV p l e R s m args below meth c nL z0 D cells slots Q n ad g (pc + 2) (a0 :: a1 :: a2 :: a3 :: a4 :: a5 :: a6 :: a7 :: a8 :: a9 :: a10 :: a11 :: a12 :: a13 :: a14 :: a15 :: a16 :: a17 :: a18 :: a19 :: a20 :: a21 :: a22 :: a23 :: a24 :: a25 :: some (.ref x) :: t) st) : vV p l e R s m args below meth c nL z0 D cells slots Q n ad g pc (a0 :: a1 :: a2 :: a3 :: a4 :: a5 :: a6 :: a7 :: a8 :: a9 :: a10 :: a11 :: a12 :: a13 :: a14 :: a15 :: a16 :: a17 :: a18 :: a19 :: a20 :: a21 :: a22 :: a23 :: a24 :: a25 :: b :: t) (.ref x :: st) := fun H locs ls hS hP hD hl => lv_astore X.1 X.2.1 d hl.lv hn rfl (fun ls' hl' => k H locs ls' hS hP hD (hasL.st1 hp (by simp) hl'))
theorem v_astore27 (X : vCx p s m args c cc own nL z0 D cy) {x : Nat} {a0 a1 a2 a3 a4 a5 a6 a7 a8 a9 a10 a11 a12 a13 a14 a15 a16 a17 a18 a19 a20 a21 a22 a23 a24 a25 a26 b : Option Value} {t : List (Option Value)} (hp : noL (a0 :: a1 :: a2 :: a3 :: a4 :: a5 :: a6 :: a7 :: a8 :: a9 :: a10 :: a11 :: a12 :: a13 :: a14 :: a15 :: a16 :: a17 :: a18 :: a19 :: a20 :: a21 :: a22 :: a23 :: a24 :: a25 :: a26 :: b :: t) 27 = true) (hn : 27 < nL) (d : decode cc pc = .ok (.astore 27, 2)) (k : vV p l e R s m args below meth c nL z0 D cells slots Q n ad g (pc + 2) (a0 :: a1 :: a2 :: a3 :: a4 :: a5 :: a6 :: a7 :: a8 :: a9 :: a10 :: a11 :: a12 :: a13 :: a14 :: a15 :: a16 :: a17 :: a18 :: a19 :: a20 :: a21 :: a22 :: a23 :: a24 :: a25 :: a26 :: some (.ref x) :: t) st) : vV p l e R s m args below meth c nL z0 D cells slots Q n ad g pc (a0 :: a1 :: a2 :: a3 :: a4 :: a5 :: a6 :: a7 :: a8 :: a9 :: a10 :: a11 :: a12 :: a13 :: a14 :: a15 :: a16 :: a17 :: a18 :: a19 :: a20 :: a21 :: a22 :: a23 :: a24 :: a25 :: a26 :: b :: t) (.ref x :: st) := fun H locs ls hS hP hD hl => lv_astore X.1 X.2.1 d hl.lv hn rfl (fun ls' hl' => k H locs ls' hS hP hD (hasL.st1 hp (by simp) hl'))
theorem v_astore28 (X : vCx p s m args c cc own nL z0 D cy) {x : Nat} {a0 a1 a2 a3 a4 a5 a6 a7 a8 a9 a10 a11 a12 a13 a14 a15 a16 a17 a18 a19 a20 a21 a22 a23 a24 a25 a26 a27 b : Option Value} {t : List (Option Value)} (hp : noL (a0 :: a1 :: a2 :: a3 :: a4 :: a5 :: a6 :: a7 :: a8 :: a9 :: a10 :: a11 :: a12 :: a13 :: a14 :: a15 :: a16 :: a17 :: a18 :: a19 :: a20 :: a21 :: a22 :: a23 :: a24 :: a25 :: a26 :: a27 :: b :: t) 28 = true) (hn : 28 < nL) (d : decode cc pc = .ok (.astore 28, 2)) (k : vV p l e R s m args below meth c nL z0 D cells slots Q n ad g (pc + 2) (a0 :: a1 :: a2 :: a3 :: a4 :: a5 :: a6 :: a7 :: a8 :: a9 :: a10 :: a11 :: a12 :: a13 :: a14 :: a15 :: a16 :: a17 :: a18 :: a19 :: a20 :: a21 :: a22 :: a23 :: a24 :: a25 :: a26 :: a27 :: some (.ref x) :: t) st) : vV p l e R s m args below meth c nL z0 D cells slots Q n ad g pc (a0 :: a1 :: a2 :: a3 :: a4 :: a5 :: a6 :: a7 :: a8 :: a9 :: a10 :: a11 :: a12 :: a13 :: a14 :: a15 :: a16 :: a17 :: a18 :: a19 :: a20 :: a21 :: a22 :: a23 :: a24 :: a25 :: a26 :: a27 :: b :: t) (.ref x :: st) := fun H locs ls hS hP hD hl => lv_astore X.1 X.2.1 d hl.lv hn rfl (fun ls' hl' => k H locs ls' hS hP hD (hasL.st1 hp (by simp) hl'))
theorem v_astore29 (X : vCx p s m args c cc own nL z0 D cy) {x : Nat} {a0 a1 a2 a3 a4 a5 a6 a7 a8 a9 a10 a11 a12 a13 a14 a15 a16 a17 a18 a19 a20 a21 a22 a23 a24 a25 a26 a27 a28 b : Option Value} {t : List (Option Value)} (hp : noL (a0 :: a1 :: a2 :: a3 :: a4 :: a5 :: a6 :: a7 :: a8 :: a9 :: a10 :: a11 :: a12 :: a13 :: a14 :: a15 :: a16 :: a17 :: a18 :: a19 :: a20 :: a21 :: a22 :: a23 :: a24 :: a25 :: a26 :: a27 :: a28 :: b :: t) 29 = true) (hn : 29 < nL) (d : decode cc pc = .ok (.astore 29, 2)) (k : vV p l e R s m args below meth c nL z0 D cells slots Q n ad g (pc + 2) (a0 :: a1 :: a2 :: a3 :: a4 :: a5 :: a6 :: a7 :: a8 :: a9 :: a10 :: a11 :: a12 :: a13 :: a14 :: a15 :: a16 :: a17 :: a18 :: a19 :: a20 :: a21 :: a22 :: a23 :: a24 :: a25 :: a26 :: a27 :: a28 :: some (.ref x) :: t) st) : vV p l e R s m args below meth c nL z0 D cells slots Q n ad g pc (a0 :: a1 :: a2 :: a3 :: a4 :: a5 :: a6 :: a7 :: a8 :: a9 :: a10 :: a11 :: a12 :: a13 :: a14 :: a15 :: a16 :: a17 :: a18 :: a19 :: a20 :: a21 :: a22 :: a23 :: a24 :: a25 :: a26 :: a27 :: a28 :: b :: t) (.ref x :: st) := fun H locs ls hS hP hD hl => lv_astore X.1 X.2.1 d hl.lv hn rfl (fun ls' hl' => k H locs ls' hS hP hD (hasL.st1 hp (by simp) hl'))
theorem v_astore30 (X : vCx p s m args c cc own nL z0 D cy) {x : Nat} {a0 a1 a2 a3 a4 a5 a6 a7 a8 a9 a10 a11 a12 a13 a14 a15 a16 a17 a18 a19 a20 a21 a22 a23 a24 a25 a26 a27 a28 a29 b : Option Value} {t : List (Option Value)} (hp : noL (a0 :: a1 :: a2 :: a3 :: a4 :: a5 :: a6 :: a7 :: a8 :: a9 :: a10 :: a11 :: a12 :: a13 :: a14 :: a15 :: a16 :: a17 :: a18 :: a19 :: a20 :: a21 :: a22 :: a23 :: a24 :: a25 :: a26 :: a27 :: a28 :: a29 :: b :: t) 30 = true) (hn : 30 < nL) (d : decode cc pc = .ok (.astore 30, 2)) (k : vV p l e R s m args below meth c nL z0 D cells slots Q n ad g (pc + 2) (a0 :: a1 :: a2 :: a3 :: a4 :: a5 :: a6 :: a7 :: a8 :: a9 :: a10 :: a11 :: a12 :: a13 :: a14 :: a15 :: a16 :: a17 :: a18 :: a19 :: a20 :: a21 :: a22 :: a23 :: a24 :: a25 :: a26 :: a27 :: a28 :: a29 :: some (.ref x) :: t) st) : vV p l e R s m args below meth c nL z0 D cells slots Q n ad g pc (a0 :: a1 :: a2 :: a3 :: a4 :: a5 :: a6 :: a7 :: a8 :: a9 :: a10 :: a11 :: a12 :: a13 :: a14 :: a15 :: a16 :: a17 :: a18 :: a19 :: a20 :: a21 :: a22 :: a23 :: a24 :: a25 :: a26 :: a27 :: a28 :: a29 :: b :: t) (.ref x :: st) := fun H locs ls hS hP hD hl => lv_astore X.1 X.2.1 d hl.lv hn rfl (fun ls' hl' => k H locs ls' hS hP hD (hasL.st1 hp (by simp) hl'))
theorem v_lstore0 (X : vCx p s m args c cc own nL z0 D cy) {x : Int64} { b b2 : Option Value} {t : List (Option Value)} (hp : noL (b :: b2 :: t) 0 = true) (hn : 1 < nL) (d : decode cc pc = .ok (.lstore_n 0, 1)) (k : vV p l e R s m args below meth c nL z0 D cells slots Q n ad g (pc + 1) (some (.long x) :: none :: t) st) : vV p l e R s m args below meth c nL z0 D cells slots Q n ad g pc (b :: b2 :: t) (.long x :: st) := fun H locs ls hS hP hD hl => lv_lstore_n X.1 X.2.1 d rfl hl.lv hn rfl (fun ls' hl' => k H locs ls' hS hP hD (hasL.st2 hp (by simp) hl'))
theorem v_lstore1 (X : vCx p s m args c cc own nL z0 D cy) {x : Int64} {a0 b b2 : Option Value} {t : List (Option Value)} (hp : noL (a0 :: b :: b2 :: t) 1 = true) (hn : 2 < nL) (d : decode cc pc = .ok (.lstore_n 1, 1)) (k : vV p l e R s m args below meth c nL z0 D cells slots Q n ad g (pc + 1) (a0 :: some (.long x) :: none :: t) st) : vV p l e R s m args below meth c nL z0 D cells slots Q n ad g pc (a0 :: b :: b2 :: t) (.long x :: st) := fun H locs ls hS hP hD hl => lv_lstore_n X.1 X.2.1 d rfl hl.lv hn rfl (fun ls' hl' => k H locs ls' hS hP hD (hasL.st2 hp (by simp) hl'))
theorem v_lstore2 (X : vCx p s m args c cc own nL z0 D cy) {x : Int64} {a0 a1 b b2 : Option Value} {t : List (Option Value)} (hp : noL (a0 :: a1 :: b :: b2 :: t) 2 = true) (hn : 3 < nL) (d : decode cc pc = .ok (.lstore_n 2, 1)) (k : vV p l e R s m args below meth c nL z0 D cells slots Q n ad g (pc + 1) (a0 :: a1 :: some (.long x) :: none :: t) st) : vV p l e R s m args below meth c nL z0 D cells slots Q n ad g pc (a0 :: a1 :: b :: b2 :: t) (.long x :: st) := fun H locs ls hS hP hD hl => lv_lstore_n X.1 X.2.1 d rfl hl.lv hn rfl (fun ls' hl' => k H locs ls' hS hP hD (hasL.st2 hp (by simp) hl'))
theorem v_lstore3 (X : vCx p s m args c cc own nL z0 D cy) {x : Int64} {a0 a1 a2 b b2 : Option Value} {t : List (Option Value)} (hp : noL (a0 :: a1 :: a2 :: b :: b2 :: t) 3 = true) (hn : 4 < nL) (d : decode cc pc = .ok (.lstore_n 3, 1)) (k : vV p l e R s m args below meth c nL z0 D cells slots Q n ad g (pc + 1) (a0 :: a1 :: a2 :: some (.long x) :: none :: t) st) : vV p l e R s m args below meth c nL z0 D cells slots Q n ad g pc (a0 :: a1 :: a2 :: b :: b2 :: t) (.long x :: st) := fun H locs ls hS hP hD hl => lv_lstore_n X.1 X.2.1 d rfl hl.lv hn rfl (fun ls' hl' => k H locs ls' hS hP hD (hasL.st2 hp (by simp) hl'))
theorem v_lstore4 (X : vCx p s m args c cc own nL z0 D cy) {x : Int64} {a0 a1 a2 a3 b b2 : Option Value} {t : List (Option Value)} (hp : noL (a0 :: a1 :: a2 :: a3 :: b :: b2 :: t) 4 = true) (hn : 5 < nL) (d : decode cc pc = .ok (.lstore 4, 2)) (k : vV p l e R s m args below meth c nL z0 D cells slots Q n ad g (pc + 2) (a0 :: a1 :: a2 :: a3 :: some (.long x) :: none :: t) st) : vV p l e R s m args below meth c nL z0 D cells slots Q n ad g pc (a0 :: a1 :: a2 :: a3 :: b :: b2 :: t) (.long x :: st) := fun H locs ls hS hP hD hl => lv_lstore X.1 X.2.1 d hl.lv hn rfl (fun ls' hl' => k H locs ls' hS hP hD (hasL.st2 hp (by simp) hl'))
theorem v_lstore5 (X : vCx p s m args c cc own nL z0 D cy) {x : Int64} {a0 a1 a2 a3 a4 b b2 : Option Value} {t : List (Option Value)} (hp : noL (a0 :: a1 :: a2 :: a3 :: a4 :: b :: b2 :: t) 5 = true) (hn : 6 < nL) (d : decode cc pc = .ok (.lstore 5, 2)) (k : vV p l e R s m args below meth c nL z0 D cells slots Q n ad g (pc + 2) (a0 :: a1 :: a2 :: a3 :: a4 :: some (.long x) :: none :: t) st) : vV p l e R s m args below meth c nL z0 D cells slots Q n ad g pc (a0 :: a1 :: a2 :: a3 :: a4 :: b :: b2 :: t) (.long x :: st) := fun H locs ls hS hP hD hl => lv_lstore X.1 X.2.1 d hl.lv hn rfl (fun ls' hl' => k H locs ls' hS hP hD (hasL.st2 hp (by simp) hl'))
theorem v_lstore6 (X : vCx p s m args c cc own nL z0 D cy) {x : Int64} {a0 a1 a2 a3 a4 a5 b b2 : Option Value} {t : List (Option Value)} (hp : noL (a0 :: a1 :: a2 :: a3 :: a4 :: a5 :: b :: b2 :: t) 6 = true) (hn : 7 < nL) (d : decode cc pc = .ok (.lstore 6, 2)) (k : vV p l e R s m args below meth c nL z0 D cells slots Q n ad g (pc + 2) (a0 :: a1 :: a2 :: a3 :: a4 :: a5 :: some (.long x) :: none :: t) st) : vV p l e R s m args below meth c nL z0 D cells slots Q n ad g pc (a0 :: a1 :: a2 :: a3 :: a4 :: a5 :: b :: b2 :: t) (.long x :: st) := fun H locs ls hS hP hD hl => lv_lstore X.1 X.2.1 d hl.lv hn rfl (fun ls' hl' => k H locs ls' hS hP hD (hasL.st2 hp (by simp) hl'))
theorem v_lstore7 (X : vCx p s m args c cc own nL z0 D cy) {x : Int64} {a0 a1 a2 a3 a4 a5 a6 b b2 : Option Value} {t : List (Option Value)} (hp : noL (a0 :: a1 :: a2 :: a3 :: a4 :: a5 :: a6 :: b :: b2 :: t) 7 = true) (hn : 8 < nL) (d : decode cc pc = .ok (.lstore 7, 2)) (k : vV p l e R s m args below meth c nL z0 D cells slots Q n ad g (pc + 2) (a0 :: a1 :: a2 :: a3 :: a4 :: a5 :: a6 :: some (.long x) :: none :: t) st) : vV p l e R s m args below meth c nL z0 D cells slots Q n ad g pc (a0 :: a1 :: a2 :: a3 :: a4 :: a5 :: a6 :: b :: b2 :: t) (.long x :: st) := fun H locs ls hS hP hD hl => lv_lstore X.1 X.2.1 d hl.lv hn rfl (fun ls' hl' => k H locs ls' hS hP hD (hasL.st2 hp (by simp) hl'))
theorem v_dstore0 (X : vCx p s m args c cc own nL z0 D cy) {x : UInt64} { b b2 : Option Value} {t : List (Option Value)} (hp : noL (b :: b2 :: t) 0 = true) (hn : 1 < nL) (d : decode cc pc = .ok (.dstore_n 0, 1)) (k : vV p l e R s m args below meth c nL z0 D cells slots Q n ad g (pc + 1) (some (.double x) :: none :: t) st) : vV p l e R s m args below meth c nL z0 D cells slots Q n ad g pc (b :: b2 :: t) (.double x :: st) := fun H locs ls hS hP hD hl => lv_dstore_n X.1 X.2.1 d rfl hl.lv hn rfl (fun ls' hl' => k H locs ls' hS hP hD (hasL.st2 hp (by simp) hl'))
theorem v_dstore1 (X : vCx p s m args c cc own nL z0 D cy) {x : UInt64} {a0 b b2 : Option Value} {t : List (Option Value)} (hp : noL (a0 :: b :: b2 :: t) 1 = true) (hn : 2 < nL) (d : decode cc pc = .ok (.dstore_n 1, 1)) (k : vV p l e R s m args below meth c nL z0 D cells slots Q n ad g (pc + 1) (a0 :: some (.double x) :: none :: t) st) : vV p l e R s m args below meth c nL z0 D cells slots Q n ad g pc (a0 :: b :: b2 :: t) (.double x :: st) := fun H locs ls hS hP hD hl => lv_dstore_n X.1 X.2.1 d rfl hl.lv hn rfl (fun ls' hl' => k H locs ls' hS hP hD (hasL.st2 hp (by simp) hl'))
theorem v_dstore2 (X : vCx p s m args c cc own nL z0 D cy) {x : UInt64} {a0 a1 b b2 : Option Value} {t : List (Option Value)} (hp : noL (a0 :: a1 :: b :: b2 :: t) 2 = true) (hn : 3 < nL) (d : decode cc pc = .ok (.dstore_n 2, 1)) (k : vV p l e R s m args below meth c nL z0 D cells slots Q n ad g (pc + 1) (a0 :: a1 :: some (.double x) :: none :: t) st) : vV p l e R s m args below meth c nL z0 D cells slots Q n ad g pc (a0 :: a1 :: b :: b2 :: t) (.double x :: st) := fun H locs ls hS hP hD hl => lv_dstore_n X.1 X.2.1 d rfl hl.lv hn rfl (fun ls' hl' => k H locs ls' hS hP hD (hasL.st2 hp (by simp) hl'))
theorem v_dstore3 (X : vCx p s m args c cc own nL z0 D cy) {x : UInt64} {a0 a1 a2 b b2 : Option Value} {t : List (Option Value)} (hp : noL (a0 :: a1 :: a2 :: b :: b2 :: t) 3 = true) (hn : 4 < nL) (d : decode cc pc = .ok (.dstore_n 3, 1)) (k : vV p l e R s m args below meth c nL z0 D cells slots Q n ad g (pc + 1) (a0 :: a1 :: a2 :: some (.double x) :: none :: t) st) : vV p l e R s m args below meth c nL z0 D cells slots Q n ad g pc (a0 :: a1 :: a2 :: b :: b2 :: t) (.double x :: st) := fun H locs ls hS hP hD hl => lv_dstore_n X.1 X.2.1 d rfl hl.lv hn rfl (fun ls' hl' => k H locs ls' hS hP hD (hasL.st2 hp (by simp) hl'))
theorem v_dstore4 (X : vCx p s m args c cc own nL z0 D cy) {x : UInt64} {a0 a1 a2 a3 b b2 : Option Value} {t : List (Option Value)} (hp : noL (a0 :: a1 :: a2 :: a3 :: b :: b2 :: t) 4 = true) (hn : 5 < nL) (d : decode cc pc = .ok (.dstore 4, 2)) (k : vV p l e R s m args below meth c nL z0 D cells slots Q n ad g (pc + 2) (a0 :: a1 :: a2 :: a3 :: some (.double x) :: none :: t) st) : vV p l e R s m args below meth c nL z0 D cells slots Q n ad g pc (a0 :: a1 :: a2 :: a3 :: b :: b2 :: t) (.double x :: st) := fun H locs ls hS hP hD hl => lv_dstore X.1 X.2.1 d hl.lv hn rfl (fun ls' hl' => k H locs ls' hS hP hD (hasL.st2 hp (by simp) hl'))
theorem v_dstore5 (X : vCx p s m args c cc own nL z0 D cy) {x : UInt64} {a0 a1 a2 a3 a4 b b2 : Option Value} {t : List (Option Value)} (hp : noL (a0 :: a1 :: a2 :: a3 :: a4 :: b :: b2 :: t) 5 = true) (hn : 6 < nL) (d : decode cc pc = .ok (.dstore 5, 2)) (k : vV p l e R s m args below meth c nL z0 D cells slots Q n ad g (pc + 2) (a0 :: a1 :: a2 :: a3 :: a4 :: some (.double x) :: none :: t) st) : vV p l e R s m args below meth c nL z0 D cells slots Q n ad g pc (a0 :: a1 :: a2 :: a3 :: a4 :: b :: b2 :: t) (.double x :: st) := fun H locs ls hS hP hD hl => lv_dstore X.1 X.2.1 d hl.lv hn rfl (fun ls' hl' => k H locs ls' hS hP hD (hasL.st2 hp (by simp) hl'))
theorem v_dstore6 (X : vCx p s m args c cc own nL z0 D cy) {x : UInt64} {a0 a1 a2 a3 a4 a5 b b2 : Option Value} {t : List (Option Value)} (hp : noL (a0 :: a1 :: a2 :: a3 :: a4 :: a5 :: b :: b2 :: t) 6 = true) (hn : 7 < nL) (d : decode cc pc = .ok (.dstore 6, 2)) (k : vV p l e R s m args below meth c nL z0 D cells slots Q n ad g (pc + 2) (a0 :: a1 :: a2 :: a3 :: a4 :: a5 :: some (.double x) :: none :: t) st) : vV p l e R s m args below meth c nL z0 D cells slots Q n ad g pc (a0 :: a1 :: a2 :: a3 :: a4 :: a5 :: b :: b2 :: t) (.double x :: st) := fun H locs ls hS hP hD hl => lv_dstore X.1 X.2.1 d hl.lv hn rfl (fun ls' hl' => k H locs ls' hS hP hD (hasL.st2 hp (by simp) hl'))
theorem v_dstore7 (X : vCx p s m args c cc own nL z0 D cy) {x : UInt64} {a0 a1 a2 a3 a4 a5 a6 b b2 : Option Value} {t : List (Option Value)} (hp : noL (a0 :: a1 :: a2 :: a3 :: a4 :: a5 :: a6 :: b :: b2 :: t) 7 = true) (hn : 8 < nL) (d : decode cc pc = .ok (.dstore 7, 2)) (k : vV p l e R s m args below meth c nL z0 D cells slots Q n ad g (pc + 2) (a0 :: a1 :: a2 :: a3 :: a4 :: a5 :: a6 :: some (.double x) :: none :: t) st) : vV p l e R s m args below meth c nL z0 D cells slots Q n ad g pc (a0 :: a1 :: a2 :: a3 :: a4 :: a5 :: a6 :: b :: b2 :: t) (.double x :: st) := fun H locs ls hS hP hD hl => lv_dstore X.1 X.2.1 d hl.lv hn rfl (fun ls' hl' => k H locs ls' hS hP hD (hasL.st2 hp (by simp) hl'))
theorem v_iinc0 (X : vCx p s m args c cc own nL z0 D cy) {x v : Int32} {t : List (Option Value)} {z : Int} (hp : noL (some (.int x) :: t) 0 = true) (hn : 0 < nL) (d : decode cc pc = .ok (.iinc 0 z, 3)) (hv : x + Int32.ofInt z = v) (k : vV p l e R s m args below meth c nL z0 D cells slots Q n ad g (pc + 3) (some (.int v) :: t) st) : vV p l e R s m args below meth c nL z0 D cells slots Q n ad g pc (some (.int x) :: t) st := fun H locs ls hS hP hD hl => by
  obtain ⟨j, hj⟩ := List.getElem?_of_mem ((prs_mem (some (.int x) :: t) 0 0 (.int x)).mpr ⟨0, by omega, rfl⟩)
  exact lv_iinc X.1 X.2.1 d hl.lv hj hv hn rfl (fun ls' hl' => k H locs ls' hS hP hD (hasL.st1 hp (by simp) hl'))
theorem v_iinc1 (X : vCx p s m args c cc own nL z0 D cy) {x v : Int32} {a0 : Option Value} {t : List (Option Value)} {z : Int} (hp : noL (a0 :: some (.int x) :: t) 1 = true) (hn : 1 < nL) (d : decode cc pc = .ok (.iinc 1 z, 3)) (hv : x + Int32.ofInt z = v) (k : vV p l e R s m args below meth c nL z0 D cells slots Q n ad g (pc + 3) (a0 :: some (.int v) :: t) st) : vV p l e R s m args below meth c nL z0 D cells slots Q n ad g pc (a0 :: some (.int x) :: t) st := fun H locs ls hS hP hD hl => by
  obtain ⟨j, hj⟩ := List.getElem?_of_mem ((prs_mem (a0 :: some (.int x) :: t) 0 1 (.int x)).mpr ⟨1, by omega, rfl⟩)
  exact lv_iinc X.1 X.2.1 d hl.lv hj hv hn rfl (fun ls' hl' => k H locs ls' hS hP hD (hasL.st1 hp (by simp) hl'))
theorem v_iinc2 (X : vCx p s m args c cc own nL z0 D cy) {x v : Int32} {a0 a1 : Option Value} {t : List (Option Value)} {z : Int} (hp : noL (a0 :: a1 :: some (.int x) :: t) 2 = true) (hn : 2 < nL) (d : decode cc pc = .ok (.iinc 2 z, 3)) (hv : x + Int32.ofInt z = v) (k : vV p l e R s m args below meth c nL z0 D cells slots Q n ad g (pc + 3) (a0 :: a1 :: some (.int v) :: t) st) : vV p l e R s m args below meth c nL z0 D cells slots Q n ad g pc (a0 :: a1 :: some (.int x) :: t) st := fun H locs ls hS hP hD hl => by
  obtain ⟨j, hj⟩ := List.getElem?_of_mem ((prs_mem (a0 :: a1 :: some (.int x) :: t) 0 2 (.int x)).mpr ⟨2, by omega, rfl⟩)
  exact lv_iinc X.1 X.2.1 d hl.lv hj hv hn rfl (fun ls' hl' => k H locs ls' hS hP hD (hasL.st1 hp (by simp) hl'))
theorem v_iinc3 (X : vCx p s m args c cc own nL z0 D cy) {x v : Int32} {a0 a1 a2 : Option Value} {t : List (Option Value)} {z : Int} (hp : noL (a0 :: a1 :: a2 :: some (.int x) :: t) 3 = true) (hn : 3 < nL) (d : decode cc pc = .ok (.iinc 3 z, 3)) (hv : x + Int32.ofInt z = v) (k : vV p l e R s m args below meth c nL z0 D cells slots Q n ad g (pc + 3) (a0 :: a1 :: a2 :: some (.int v) :: t) st) : vV p l e R s m args below meth c nL z0 D cells slots Q n ad g pc (a0 :: a1 :: a2 :: some (.int x) :: t) st := fun H locs ls hS hP hD hl => by
  obtain ⟨j, hj⟩ := List.getElem?_of_mem ((prs_mem (a0 :: a1 :: a2 :: some (.int x) :: t) 0 3 (.int x)).mpr ⟨3, by omega, rfl⟩)
  exact lv_iinc X.1 X.2.1 d hl.lv hj hv hn rfl (fun ls' hl' => k H locs ls' hS hP hD (hasL.st1 hp (by simp) hl'))
theorem v_iinc4 (X : vCx p s m args c cc own nL z0 D cy) {x v : Int32} {a0 a1 a2 a3 : Option Value} {t : List (Option Value)} {z : Int} (hp : noL (a0 :: a1 :: a2 :: a3 :: some (.int x) :: t) 4 = true) (hn : 4 < nL) (d : decode cc pc = .ok (.iinc 4 z, 3)) (hv : x + Int32.ofInt z = v) (k : vV p l e R s m args below meth c nL z0 D cells slots Q n ad g (pc + 3) (a0 :: a1 :: a2 :: a3 :: some (.int v) :: t) st) : vV p l e R s m args below meth c nL z0 D cells slots Q n ad g pc (a0 :: a1 :: a2 :: a3 :: some (.int x) :: t) st := fun H locs ls hS hP hD hl => by
  obtain ⟨j, hj⟩ := List.getElem?_of_mem ((prs_mem (a0 :: a1 :: a2 :: a3 :: some (.int x) :: t) 0 4 (.int x)).mpr ⟨4, by omega, rfl⟩)
  exact lv_iinc X.1 X.2.1 d hl.lv hj hv hn rfl (fun ls' hl' => k H locs ls' hS hP hD (hasL.st1 hp (by simp) hl'))
theorem v_iinc5 (X : vCx p s m args c cc own nL z0 D cy) {x v : Int32} {a0 a1 a2 a3 a4 : Option Value} {t : List (Option Value)} {z : Int} (hp : noL (a0 :: a1 :: a2 :: a3 :: a4 :: some (.int x) :: t) 5 = true) (hn : 5 < nL) (d : decode cc pc = .ok (.iinc 5 z, 3)) (hv : x + Int32.ofInt z = v) (k : vV p l e R s m args below meth c nL z0 D cells slots Q n ad g (pc + 3) (a0 :: a1 :: a2 :: a3 :: a4 :: some (.int v) :: t) st) : vV p l e R s m args below meth c nL z0 D cells slots Q n ad g pc (a0 :: a1 :: a2 :: a3 :: a4 :: some (.int x) :: t) st := fun H locs ls hS hP hD hl => by
  obtain ⟨j, hj⟩ := List.getElem?_of_mem ((prs_mem (a0 :: a1 :: a2 :: a3 :: a4 :: some (.int x) :: t) 0 5 (.int x)).mpr ⟨5, by omega, rfl⟩)
  exact lv_iinc X.1 X.2.1 d hl.lv hj hv hn rfl (fun ls' hl' => k H locs ls' hS hP hD (hasL.st1 hp (by simp) hl'))
theorem v_iinc6 (X : vCx p s m args c cc own nL z0 D cy) {x v : Int32} {a0 a1 a2 a3 a4 a5 : Option Value} {t : List (Option Value)} {z : Int} (hp : noL (a0 :: a1 :: a2 :: a3 :: a4 :: a5 :: some (.int x) :: t) 6 = true) (hn : 6 < nL) (d : decode cc pc = .ok (.iinc 6 z, 3)) (hv : x + Int32.ofInt z = v) (k : vV p l e R s m args below meth c nL z0 D cells slots Q n ad g (pc + 3) (a0 :: a1 :: a2 :: a3 :: a4 :: a5 :: some (.int v) :: t) st) : vV p l e R s m args below meth c nL z0 D cells slots Q n ad g pc (a0 :: a1 :: a2 :: a3 :: a4 :: a5 :: some (.int x) :: t) st := fun H locs ls hS hP hD hl => by
  obtain ⟨j, hj⟩ := List.getElem?_of_mem ((prs_mem (a0 :: a1 :: a2 :: a3 :: a4 :: a5 :: some (.int x) :: t) 0 6 (.int x)).mpr ⟨6, by omega, rfl⟩)
  exact lv_iinc X.1 X.2.1 d hl.lv hj hv hn rfl (fun ls' hl' => k H locs ls' hS hP hD (hasL.st1 hp (by simp) hl'))
theorem v_iinc7 (X : vCx p s m args c cc own nL z0 D cy) {x v : Int32} {a0 a1 a2 a3 a4 a5 a6 : Option Value} {t : List (Option Value)} {z : Int} (hp : noL (a0 :: a1 :: a2 :: a3 :: a4 :: a5 :: a6 :: some (.int x) :: t) 7 = true) (hn : 7 < nL) (d : decode cc pc = .ok (.iinc 7 z, 3)) (hv : x + Int32.ofInt z = v) (k : vV p l e R s m args below meth c nL z0 D cells slots Q n ad g (pc + 3) (a0 :: a1 :: a2 :: a3 :: a4 :: a5 :: a6 :: some (.int v) :: t) st) : vV p l e R s m args below meth c nL z0 D cells slots Q n ad g pc (a0 :: a1 :: a2 :: a3 :: a4 :: a5 :: a6 :: some (.int x) :: t) st := fun H locs ls hS hP hD hl => by
  obtain ⟨j, hj⟩ := List.getElem?_of_mem ((prs_mem (a0 :: a1 :: a2 :: a3 :: a4 :: a5 :: a6 :: some (.int x) :: t) 0 7 (.int x)).mpr ⟨7, by omega, rfl⟩)
  exact lv_iinc X.1 X.2.1 d hl.lv hj hv hn rfl (fun ls' hl' => k H locs ls' hS hP hD (hasL.st1 hp (by simp) hl'))
theorem v_iinc8 (X : vCx p s m args c cc own nL z0 D cy) {x v : Int32} {a0 a1 a2 a3 a4 a5 a6 a7 : Option Value} {t : List (Option Value)} {z : Int} (hp : noL (a0 :: a1 :: a2 :: a3 :: a4 :: a5 :: a6 :: a7 :: some (.int x) :: t) 8 = true) (hn : 8 < nL) (d : decode cc pc = .ok (.iinc 8 z, 3)) (hv : x + Int32.ofInt z = v) (k : vV p l e R s m args below meth c nL z0 D cells slots Q n ad g (pc + 3) (a0 :: a1 :: a2 :: a3 :: a4 :: a5 :: a6 :: a7 :: some (.int v) :: t) st) : vV p l e R s m args below meth c nL z0 D cells slots Q n ad g pc (a0 :: a1 :: a2 :: a3 :: a4 :: a5 :: a6 :: a7 :: some (.int x) :: t) st := fun H locs ls hS hP hD hl => by
  obtain ⟨j, hj⟩ := List.getElem?_of_mem ((prs_mem (a0 :: a1 :: a2 :: a3 :: a4 :: a5 :: a6 :: a7 :: some (.int x) :: t) 0 8 (.int x)).mpr ⟨8, by omega, rfl⟩)
  exact lv_iinc X.1 X.2.1 d hl.lv hj hv hn rfl (fun ls' hl' => k H locs ls' hS hP hD (hasL.st1 hp (by simp) hl'))
theorem v_iinc9 (X : vCx p s m args c cc own nL z0 D cy) {x v : Int32} {a0 a1 a2 a3 a4 a5 a6 a7 a8 : Option Value} {t : List (Option Value)} {z : Int} (hp : noL (a0 :: a1 :: a2 :: a3 :: a4 :: a5 :: a6 :: a7 :: a8 :: some (.int x) :: t) 9 = true) (hn : 9 < nL) (d : decode cc pc = .ok (.iinc 9 z, 3)) (hv : x + Int32.ofInt z = v) (k : vV p l e R s m args below meth c nL z0 D cells slots Q n ad g (pc + 3) (a0 :: a1 :: a2 :: a3 :: a4 :: a5 :: a6 :: a7 :: a8 :: some (.int v) :: t) st) : vV p l e R s m args below meth c nL z0 D cells slots Q n ad g pc (a0 :: a1 :: a2 :: a3 :: a4 :: a5 :: a6 :: a7 :: a8 :: some (.int x) :: t) st := fun H locs ls hS hP hD hl => by
  obtain ⟨j, hj⟩ := List.getElem?_of_mem ((prs_mem (a0 :: a1 :: a2 :: a3 :: a4 :: a5 :: a6 :: a7 :: a8 :: some (.int x) :: t) 0 9 (.int x)).mpr ⟨9, by omega, rfl⟩)
  exact lv_iinc X.1 X.2.1 d hl.lv hj hv hn rfl (fun ls' hl' => k H locs ls' hS hP hD (hasL.st1 hp (by simp) hl'))
theorem v_iinc10 (X : vCx p s m args c cc own nL z0 D cy) {x v : Int32} {a0 a1 a2 a3 a4 a5 a6 a7 a8 a9 : Option Value} {t : List (Option Value)} {z : Int} (hp : noL (a0 :: a1 :: a2 :: a3 :: a4 :: a5 :: a6 :: a7 :: a8 :: a9 :: some (.int x) :: t) 10 = true) (hn : 10 < nL) (d : decode cc pc = .ok (.iinc 10 z, 3)) (hv : x + Int32.ofInt z = v) (k : vV p l e R s m args below meth c nL z0 D cells slots Q n ad g (pc + 3) (a0 :: a1 :: a2 :: a3 :: a4 :: a5 :: a6 :: a7 :: a8 :: a9 :: some (.int v) :: t) st) : vV p l e R s m args below meth c nL z0 D cells slots Q n ad g pc (a0 :: a1 :: a2 :: a3 :: a4 :: a5 :: a6 :: a7 :: a8 :: a9 :: some (.int x) :: t) st := fun H locs ls hS hP hD hl => by
  obtain ⟨j, hj⟩ := List.getElem?_of_mem ((prs_mem (a0 :: a1 :: a2 :: a3 :: a4 :: a5 :: a6 :: a7 :: a8 :: a9 :: some (.int x) :: t) 0 10 (.int x)).mpr ⟨10, by omega, rfl⟩)
  exact lv_iinc X.1 X.2.1 d hl.lv hj hv hn rfl (fun ls' hl' => k H locs ls' hS hP hD (hasL.st1 hp (by simp) hl'))
theorem v_iinc11 (X : vCx p s m args c cc own nL z0 D cy) {x v : Int32} {a0 a1 a2 a3 a4 a5 a6 a7 a8 a9 a10 : Option Value} {t : List (Option Value)} {z : Int} (hp : noL (a0 :: a1 :: a2 :: a3 :: a4 :: a5 :: a6 :: a7 :: a8 :: a9 :: a10 :: some (.int x) :: t) 11 = true) (hn : 11 < nL) (d : decode cc pc = .ok (.iinc 11 z, 3)) (hv : x + Int32.ofInt z = v) (k : vV p l e R s m args below meth c nL z0 D cells slots Q n ad g (pc + 3) (a0 :: a1 :: a2 :: a3 :: a4 :: a5 :: a6 :: a7 :: a8 :: a9 :: a10 :: some (.int v) :: t) st) : vV p l e R s m args below meth c nL z0 D cells slots Q n ad g pc (a0 :: a1 :: a2 :: a3 :: a4 :: a5 :: a6 :: a7 :: a8 :: a9 :: a10 :: some (.int x) :: t) st := fun H locs ls hS hP hD hl => by
  obtain ⟨j, hj⟩ := List.getElem?_of_mem ((prs_mem (a0 :: a1 :: a2 :: a3 :: a4 :: a5 :: a6 :: a7 :: a8 :: a9 :: a10 :: some (.int x) :: t) 0 11 (.int x)).mpr ⟨11, by omega, rfl⟩)
  exact lv_iinc X.1 X.2.1 d hl.lv hj hv hn rfl (fun ls' hl' => k H locs ls' hS hP hD (hasL.st1 hp (by simp) hl'))
theorem v_iinc12 (X : vCx p s m args c cc own nL z0 D cy) {x v : Int32} {a0 a1 a2 a3 a4 a5 a6 a7 a8 a9 a10 a11 : Option Value} {t : List (Option Value)} {z : Int} (hp : noL (a0 :: a1 :: a2 :: a3 :: a4 :: a5 :: a6 :: a7 :: a8 :: a9 :: a10 :: a11 :: some (.int x) :: t) 12 = true) (hn : 12 < nL) (d : decode cc pc = .ok (.iinc 12 z, 3)) (hv : x + Int32.ofInt z = v) (k : vV p l e R s m args below meth c nL z0 D cells slots Q n ad g (pc + 3) (a0 :: a1 :: a2 :: a3 :: a4 :: a5 :: a6 :: a7 :: a8 :: a9 :: a10 :: a11 :: some (.int v) :: t) st) : vV p l e R s m args below meth c nL z0 D cells slots Q n ad g pc (a0 :: a1 :: a2 :: a3 :: a4 :: a5 :: a6 :: a7 :: a8 :: a9 :: a10 :: a11 :: some (.int x) :: t) st := fun H locs ls hS hP hD hl => by
  obtain ⟨j, hj⟩ := List.getElem?_of_mem ((prs_mem (a0 :: a1 :: a2 :: a3 :: a4 :: a5 :: a6 :: a7 :: a8 :: a9 :: a10 :: a11 :: some (.int x) :: t) 0 12 (.int x)).mpr ⟨12, by omega, rfl⟩)
  exact lv_iinc X.1 X.2.1 d hl.lv hj hv hn rfl (fun ls' hl' => k H locs ls' hS hP hD (hasL.st1 hp (by simp) hl'))
theorem v_iinc13 (X : vCx p s m args c cc own nL z0 D cy) {x v : Int32} {a0 a1 a2 a3 a4 a5 a6 a7 a8 a9 a10 a11 a12 : Option Value} {t : List (Option Value)} {z : Int} (hp : noL (a0 :: a1 :: a2 :: a3 :: a4 :: a5 :: a6 :: a7 :: a8 :: a9 :: a10 :: a11 :: a12 :: some (.int x) :: t) 13 = true) (hn : 13 < nL) (d : decode cc pc = .ok (.iinc 13 z, 3)) (hv : x + Int32.ofInt z = v) (k : vV p l e R s m args below meth c nL z0 D cells slots Q n ad g (pc + 3) (a0 :: a1 :: a2 :: a3 :: a4 :: a5 :: a6 :: a7 :: a8 :: a9 :: a10 :: a11 :: a12 :: some (.int v) :: t) st) : vV p l e R s m args below meth c nL z0 D cells slots Q n ad g pc (a0 :: a1 :: a2 :: a3 :: a4 :: a5 :: a6 :: a7 :: a8 :: a9 :: a10 :: a11 :: a12 :: some (.int x) :: t) st := fun H locs ls hS hP hD hl => by
  obtain ⟨j, hj⟩ := List.getElem?_of_mem ((prs_mem (a0 :: a1 :: a2 :: a3 :: a4 :: a5 :: a6 :: a7 :: a8 :: a9 :: a10 :: a11 :: a12 :: some (.int x) :: t) 0 13 (.int x)).mpr ⟨13, by omega, rfl⟩)
  exact lv_iinc X.1 X.2.1 d hl.lv hj hv hn rfl (fun ls' hl' => k H locs ls' hS hP hD (hasL.st1 hp (by simp) hl'))
theorem v_iinc14 (X : vCx p s m args c cc own nL z0 D cy) {x v : Int32} {a0 a1 a2 a3 a4 a5 a6 a7 a8 a9 a10 a11 a12 a13 : Option Value} {t : List (Option Value)} {z : Int} (hp : noL (a0 :: a1 :: a2 :: a3 :: a4 :: a5 :: a6 :: a7 :: a8 :: a9 :: a10 :: a11 :: a12 :: a13 :: some (.int x) :: t) 14 = true) (hn : 14 < nL) (d : decode cc pc = .ok (.iinc 14 z, 3)) (hv : x + Int32.ofInt z = v) (k : vV p l e R s m args below meth c nL z0 D cells slots Q n ad g (pc + 3) (a0 :: a1 :: a2 :: a3 :: a4 :: a5 :: a6 :: a7 :: a8 :: a9 :: a10 :: a11 :: a12 :: a13 :: some (.int v) :: t) st) : vV p l e R s m args below meth c nL z0 D cells slots Q n ad g pc (a0 :: a1 :: a2 :: a3 :: a4 :: a5 :: a6 :: a7 :: a8 :: a9 :: a10 :: a11 :: a12 :: a13 :: some (.int x) :: t) st := fun H locs ls hS hP hD hl => by
  obtain ⟨j, hj⟩ := List.getElem?_of_mem ((prs_mem (a0 :: a1 :: a2 :: a3 :: a4 :: a5 :: a6 :: a7 :: a8 :: a9 :: a10 :: a11 :: a12 :: a13 :: some (.int x) :: t) 0 14 (.int x)).mpr ⟨14, by omega, rfl⟩)
  exact lv_iinc X.1 X.2.1 d hl.lv hj hv hn rfl (fun ls' hl' => k H locs ls' hS hP hD (hasL.st1 hp (by simp) hl'))
theorem v_iinc15 (X : vCx p s m args c cc own nL z0 D cy) {x v : Int32} {a0 a1 a2 a3 a4 a5 a6 a7 a8 a9 a10 a11 a12 a13 a14 : Option Value} {t : List (Option Value)} {z : Int} (hp : noL (a0 :: a1 :: a2 :: a3 :: a4 :: a5 :: a6 :: a7 :: a8 :: a9 :: a10 :: a11 :: a12 :: a13 :: a14 :: some (.int x) :: t) 15 = true) (hn : 15 < nL) (d : decode cc pc = .ok (.iinc 15 z, 3)) (hv : x + Int32.ofInt z = v) (k : vV p l e R s m args below meth c nL z0 D cells slots Q n ad g (pc + 3) (a0 :: a1 :: a2 :: a3 :: a4 :: a5 :: a6 :: a7 :: a8 :: a9 :: a10 :: a11 :: a12 :: a13 :: a14 :: some (.int v) :: t) st) : vV p l e R s m args below meth c nL z0 D cells slots Q n ad g pc (a0 :: a1 :: a2 :: a3 :: a4 :: a5 :: a6 :: a7 :: a8 :: a9 :: a10 :: a11 :: a12 :: a13 :: a14 :: some (.int x) :: t) st := fun H locs ls hS hP hD hl => by
  obtain ⟨j, hj⟩ := List.getElem?_of_mem ((prs_mem (a0 :: a1 :: a2 :: a3 :: a4 :: a5 :: a6 :: a7 :: a8 :: a9 :: a10 :: a11 :: a12 :: a13 :: a14 :: some (.int x) :: t) 0 15 (.int x)).mpr ⟨15, by omega, rfl⟩)
  exact lv_iinc X.1 X.2.1 d hl.lv hj hv hn rfl (fun ls' hl' => k H locs ls' hS hP hD (hasL.st1 hp (by simp) hl'))
theorem v_iinc16 (X : vCx p s m args c cc own nL z0 D cy) {x v : Int32} {a0 a1 a2 a3 a4 a5 a6 a7 a8 a9 a10 a11 a12 a13 a14 a15 : Option Value} {t : List (Option Value)} {z : Int} (hp : noL (a0 :: a1 :: a2 :: a3 :: a4 :: a5 :: a6 :: a7 :: a8 :: a9 :: a10 :: a11 :: a12 :: a13 :: a14 :: a15 :: some (.int x) :: t) 16 = true) (hn : 16 < nL) (d : decode cc pc = .ok (.iinc 16 z, 3)) (hv : x + Int32.ofInt z = v) (k : vV p l e R s m args below meth c nL z0 D cells slots Q n ad g (pc + 3) (a0 :: a1 :: a2 :: a3 :: a4 :: a5 :: a6 :: a7 :: a8 :: a9 :: a10 :: a11 :: a12 :: a13 :: a14 :: a15 :: some (.int v) :: t) st) : vV p l e R s m args below meth c nL z0 D cells slots Q n ad g pc (a0 :: a1 :: a2 :: a3 :: a4 :: a5 :: a6 :: a7 :: a8 :: a9 :: a10 :: a11 :: a12 :: a13 :: a14 :: a15 :: some (.int x) :: t) st := fun H locs ls hS hP hD hl => by
  obtain ⟨j, hj⟩ := List.getElem?_of_mem ((prs_mem (a0 :: a1 :: a2 :: a3 :: a4 :: a5 :: a6 :: a7 :: a8 :: a9 :: a10 :: a11 :: a12 :: a13 :: a14 :: a15 :: some (.int x) :: t) 0 16 (.int x)).mpr ⟨16, by omega, rfl⟩)
  exact lv_iinc X.1 X.2.1 d hl.lv hj hv hn rfl (fun ls' hl' => k H locs ls' hS hP hD (hasL.st1 hp (by simp) hl'))
theorem v_iinc17 (X : vCx p s m args c cc own nL z0 D cy) {x v : Int32} {a0 a1 a2 a3 a4 a5 a6 a7 a8 a9 a10 a11 a12 a13 a14 a15 a16 : Option Value} {t : List (Option Value)} {z : Int} (hp : noL (a0 :: a1 :: a2 :: a3 :: a4 :: a5 :: a6 :: a7 :: a8 :: a9 :: a10 :: a11 :: a12 :: a13 :: a14 :: a15 :: a16 :: some (.int x) :: t) 17 = true) (hn : 17 < nL) (d : decode cc pc = .ok (.iinc 17 z, 3)) (hv : x + Int32.ofInt z = v) (k : vV p l e R s m args below meth c nL z0 D cells slots Q n ad g (pc + 3) (a0 :: a1 :: a2 :: a3 :: a4 :: a5 :: a6 :: a7 :: a8 :: a9 :: a10 :: a11 :: a12 :: a13 :: a14 :: a15 :: a16 :: some (.int v) :: t) st) : vV p l e R s m args below meth c nL z0 D cells slots Q n ad g pc (a0 :: a1 :: a2 :: a3 :: a4 :: a5 :: a6 :: a7 :: a8 :: a9 :: a10 :: a11 :: a12 :: a13 :: a14 :: a15 :: a16 :: some (.int x) :: t) st := fun H locs ls hS hP hD hl => by
  obtain ⟨j, hj⟩ := List.getElem?_of_mem ((prs_mem (a0 :: a1 :: a2 :: a3 :: a4 :: a5 :: a6 :: a7 :: a8 :: a9 :: a10 :: a11 :: a12 :: a13 :: a14 :: a15 :: a16 :: some (.int x) :: t) 0 17 (.int x)).mpr ⟨17, by omega, rfl⟩)
  exact lv_iinc X.1 X.2.1 d hl.lv hj hv hn rfl (fun ls' hl' => k H locs ls' hS hP hD (hasL.st1 hp (by simp) hl'))
theorem v_iinc18 (X : vCx p s m args c cc own nL z0 D cy) {x v : Int32} {a0 a1 a2 a3 a4 a5 a6 a7 a8 a9 a10 a11 a12 a13 a14 a15 a16 a17 : Option Value} {t : List (Option Value)} {z : Int} (hp : noL (a0 :: a1 :: a2 :: a3 :: a4 :: a5 :: a6 :: a7 :: a8 :: a9 :: a10 :: a11 :: a12 :: a13 :: a14 :: a15 :: a16 :: a17 :: some (.int x) :: t) 18 = true) (hn : 18 < nL) (d : decode cc pc = .ok (.iinc 18 z, 3)) (hv : x + Int32.ofInt z = v) (k : vV p l e R s m args below meth c nL z0 D cells slots Q n ad g (pc + 3) (a0 :: a1 :: a2 :: a3 :: a4 :: a5 :: a6 :: a7 :: a8 :: a9 :: a10 :: a11 :: a12 :: a13 :: a14 :: a15 :: a16 :: a17 :: some (.int v) :: t) st) : vV p l e R s m args below meth c nL z0 D cells slots Q n ad g pc (a0 :: a1 :: a2 :: a3 :: a4 :: a5 :: a6 :: a7 :: a8 :: a9 :: a10 :: a11 :: a12 :: a13 :: a14 :: a15 :: a16 :: a17 :: some (.int x) :: t) st := fun H locs ls hS hP hD hl => by
  obtain ⟨j, hj⟩ := List.getElem?_of_mem ((prs_mem (a0 :: a1 :: a2 :: a3 :: a4 :: a5 :: a6 :: a7 :: a8 :: a9 :: a10 :: a11 :: a12 :: a13 :: a14 :: a15 :: a16 :: a17 :: some (.int x) :: t) 0 18 (.int x)).mpr ⟨18, by omega, rfl⟩)
  exact lv_iinc X.1 X.2.1 d hl.lv hj hv hn rfl (fun ls' hl' => k H locs ls' hS hP hD (hasL.st1 hp (by simp) hl'))
theorem v_iinc19 (X : vCx p s m args c cc own nL z0 D cy) {x v : Int32} {a0 a1 a2 a3 a4 a5 a6 a7 a8 a9 a10 a11 a12 a13 a14 a15 a16 a17 a18 : Option Value} {t : List (Option Value)} {z : Int} (hp : noL (a0 :: a1 :: a2 :: a3 :: a4 :: a5 :: a6 :: a7 :: a8 :: a9 :: a10 :: a11 :: a12 :: a13 :: a14 :: a15 :: a16 :: a17 :: a18 :: some (.int x) :: t) 19 = true) (hn : 19 < nL) (d : decode cc pc = .ok (.iinc 19 z, 3)) (hv : x + Int32.ofInt z = v) (k : vV p l e R s m args below meth c nL z0 D cells slots Q n ad g (pc + 3) (a0 :: a1 :: a2 :: a3 :: a4 :: a5 :: a6 :: a7 :: a8 :: a9 :: a10 :: a11 :: a12 :: a13 :: a14 :: a15 :: a16 :: a17 :: a18 :: some (.int v) :: t) st) : vV p l e R s m args below meth c nL z0 D cells slots Q n ad g pc (a0 :: a1 :: a2 :: a3 :: a4 :: a5 :: a6 :: a7 :: a8 :: a9 :: a10 :: a11 :: a12 :: a13 :: a14 :: a15 :: a16 :: a17 :: a18 :: some (.int x) :: t) st := fun H locs ls hS hP hD hl => by
  obtain ⟨j, hj⟩ := List.getElem?_of_mem ((prs_mem (a0 :: a1 :: a2 :: a3 :: a4 :: a5 :: a6 :: a7 :: a8 :: a9 :: a10 :: a11 :: a12 :: a13 :: a14 :: a15 :: a16 :: a17 :: a18 :: some (.int x) :: t) 0 19 (.int x)).mpr ⟨19, by omega, rfl⟩)
  exact lv_iinc X.1 X.2.1 d hl.lv hj hv hn rfl (fun ls' hl' => k H locs ls' hS hP hD (hasL.st1 hp (by simp) hl'))
theorem v_iinc20 (X : vCx p s m args c cc own nL z0 D cy) {x v : Int32} {a0 a1 a2 a3 a4 a5 a6 a7 a8 a9 a10 a11 a12 a13 a14 a15 a16 a17 a18 a19 : Option Value} {t : List (Option Value)} {z : Int} (hp : noL (a0 :: a1 :: a2 :: a3 :: a4 :: a5 :: a6 :: a7 :: a8 :: a9 :: a10 :: a11 :: a12 :: a13 :: a14 :: a15 :: a16 :: a17 :: a18 :: a19 :: some (.int x) :: t) 20 = true) (hn : 20 < nL) (d : decode cc pc = .ok (.iinc 20 z, 3)) (hv : x + Int32.ofInt z = v) (k : vV p l e R s m args below meth c nL z0 D cells slots Q n ad g (pc + 3) (a0 :: a1 :: a2 :: a3 :: a4 :: a5 :: a6 :: a7 :: a8 :: a9 :: a10 :: a11 :: a12 :: a13 :: a14 :: a15 :: a16 :: a17 :: a18 :: a19 :: some (.int v) :: t) st) : vV p l e R s m args below meth c nL z0 D cells slots Q n ad g pc (a0 :: a1 :: a2 :: a3 :: a4 :: a5 :: a6 :: a7 :: a8 :: a9 :: a10 :: a11 :: a12 :: a13 :: a14 :: a15 :: a16 :: a17 :: a18 :: a19 :: some (.int x) :: t) st := fun H locs ls hS hP hD hl => by
  obtain ⟨j, hj⟩ := List.getElem?_of_mem ((prs_mem (a0 :: a1 :: a2 :: a3 :: a4 :: a5 :: a6 :: a7 :: a8 :: a9 :: a10 :: a11 :: a12 :: a13 :: a14 :: a15 :: a16 :: a17 :: a18 :: a19 :: some (.int x) :: t) 0 20 (.int x)).mpr ⟨20, by omega, rfl⟩)
  exact lv_iinc X.1 X.2.1 d hl.lv hj hv hn rfl (fun ls' hl' => k H locs ls' hS hP hD (hasL.st1 hp (by simp) hl'))
theorem v_iinc21 (X : vCx p s m args c cc own nL z0 D cy) {x v : Int32} {a0 a1 a2 a3 a4 a5 a6 a7 a8 a9 a10 a11 a12 a13 a14 a15 a16 a17 a18 a19 a20 : Option Value} {t : List (Option Value)} {z : Int} (hp : noL (a0 :: a1 :: a2 :: a3 :: a4 :: a5 :: a6 :: a7 :: a8 :: a9 :: a10 :: a11 :: a12 :: a13 :: a14 :: a15 :: a16 :: a17 :: a18 :: a19 :: a20 :: some (.int x) :: t) 21 = true) (hn : 21 < nL) (d : decode cc pc = .ok (.iinc 21 z, 3)) (hv : x + Int32.ofInt z = v) (k : vV p l e R s m args below meth c nL z0 D cells slots Q n ad g (pc + 3) (a0 :: a1 :: a2 :: a3 :: a4 :: a5 :: a6 :: a7 :: a8 :: a9 :: a10 :: a11 :: a12 :: a13 :: a14 :: a15 :: a16 :: a17 :: a18 :: a19 :: a20 :: some (.int v) :: t) st) : vV p l e R s m args below meth c nL z0 D cells slots Q n ad g pc (a0 :: a1 :: a2 :: a3 :: a4 :: a5 :: a6 :: a7 :: a8 :: a9 :: a10 :: a11 :: a12 :: a13 :: a14 :: a15 :: a16 :: a17 :: a18 :: a19 :: a20 :: some (.int x) :: t) st := fun H locs ls hS hP hD hl => by
  obtain ⟨j, hj⟩ := List.getElem?_of_mem ((prs_mem (a0 :: a1 :: a2 :: a3 :: a4 :: a5 :: a6 :: a7 :: a8 :: a9 :: a10 :: a11 :: a12 :: a13 :: a14 :: a15 :: a16 :: a17 :: a18 :: a19 :: a20 :: some (.int x) :: t) 0 21 (.int x)).mpr ⟨21, by omega, rfl⟩)
  exact lv_iinc X.1 X.2.1 d hl.lv hj hv hn rfl (fun ls' hl' => k H locs ls' hS hP hD (hasL.st1 hp (by simp) hl'))
theorem v_iinc22 (X : vCx p s m args c cc own nL z0 D cy) {x v : Int32} {a0 a1 a2 a3 a4 a5 a6 a7 a8 a9 a10 a11 a12 a13 a14 a15 a16 a17 a18 a19 a20 a21 : Option Value} {t : List (Option Value)} {z : Int} (hp : noL (a0 :: a1 :: a2 :: a3 :: a4 :: a5 :: a6 :: a7 :: a8 :: a9 :: a10 :: a11 :: a12 :: a13 :: a14 :: a15 :: a16 :: a17 :: a18 :: a19 :: a20 :: a21 :: some (.int x) :: t) 22 = true) (hn : 22 < nL) (d : decode cc pc = .ok (.iinc 22 z, 3)) (hv : x + Int32.ofInt z = v) (k : vV p l e R s m args below meth c nL z0 D cells slots Q n ad g (pc + 3) (a0 :: a1 :: a2 :: a3 :: a4 :: a5 :: a6 :: a7 :: a8 :: a9 :: a10 :: a11 :: a12 :: a13 :: a14 :: a15 :: a16 :: a17 :: a18 :: a19 :: a20 :: a21 :: some (.int v) :: t) st) : vV p l e R s m args below meth c nL z0 D cells slots Q n ad g pc (a0 :: a1 :: a2 :: a3 :: a4 :: a5 :: a6 :: a7 :: a8 :: a9 :: a10 :: a11 :: a12 :: a13 :: a14 :: a15 :: a16 :: a17 :: a18 :: a19 :: a20 :: a21 :: some (.int x) :: t) st := fun H locs ls hS hP hD hl => by
  obtain ⟨j, hj⟩ := List.getElem?_of_mem ((prs_mem (a0 :: a1 :: a2 :: a3 :: a4 :: a5 :: a6 :: a7 :: a8 :: a9 :: a10 :: a11 :: a12 :: a13 :: a14 :: a15 :: a16 :: a17 :: a18 :: a19 :: a20 :: a21 :: some (.int x) :: t) 0 22 (.int x)).mpr ⟨22, by omega, rfl⟩)
  exact lv_iinc X.1 X.2.1 d hl.lv hj hv hn rfl (fun ls' hl' => k H locs ls' hS hP hD (hasL.st1 hp (by simp) hl'))
theorem v_iinc23 (X : vCx p s m args c cc own nL z0 D cy) {x v : Int32} {a0 a1 a2 a3 a4 a5 a6 a7 a8 a9 a10 a11 a12 a13 a14 a15 a16 a17 a18 a19 a20 a21 a22 : Option Value} {t : List (Option Value)} {z : Int} (hp : noL (a0 :: a1 :: a2 :: a3 :: a4 :: a5 :: a6 :: a7 :: a8 :: a9 :: a10 :: a11 :: a12 :: a13 :: a14 :: a15 :: a16 :: a17 :: a18 :: a19 :: a20 :: a21 :: a22 :: some (.int x) :: t) 23 = true) (hn : 23 < nL) (d : decode cc pc = .ok (.iinc 23 z, 3)) (hv : x + Int32.ofInt z = v) (k : vV p l e R s m args below meth c nL z0 D cells slots Q n ad g (pc + 3) (a0 :: a1 :: a2 :: a3 :: a4 :: a5 :: a6 :: a7 :: a8 :: a9 :: a10 :: a11 :: a12 :: a13 :: a14 :: a15 :: a16 :: a17 :: a18 :: a19 :: a20 :: a21 :: a22 :: some (.int v) :: t) st) : vV p l e R s m args below meth c nL z0 D cells slots Q n ad g pc (a0 :: a1 :: a2 :: a3 :: a4 :: a5 :: a6 :: a7 :: a8 :: a9 :: a10 :: a11 :: a12 :: a13 :: a14 :: a15 :: a16 :: a17 :: a18 :: a19 :: a20 :: a21 :: a22 :: some (.int x) :: t) st := fun H locs ls hS hP hD hl => by
  obtain ⟨j, hj⟩ := List.getElem?_of_mem ((prs_mem (a0 :: a1 :: a2 :: a3 :: a4 :: a5 :: a6 :: a7 :: a8 :: a9 :: a10 :: a11 :: a12 :: a13 :: a14 :: a15 :: a16 :: a17 :: a18 :: a19 :: a20 :: a21 :: a22 :: some (.int x) :: t) 0 23 (.int x)).mpr ⟨23, by omega, rfl⟩)
  exact lv_iinc X.1 X.2.1 d hl.lv hj hv hn rfl (fun ls' hl' => k H locs ls' hS hP hD (hasL.st1 hp (by simp) hl'))
theorem v_iinc24 (X : vCx p s m args c cc own nL z0 D cy) {x v : Int32} {a0 a1 a2 a3 a4 a5 a6 a7 a8 a9 a10 a11 a12 a13 a14 a15 a16 a17 a18 a19 a20 a21 a22 a23 : Option Value} {t : List (Option Value)} {z : Int} (hp : noL (a0 :: a1 :: a2 :: a3 :: a4 :: a5 :: a6 :: a7 :: a8 :: a9 :: a10 :: a11 :: a12 :: a13 :: a14 :: a15 :: a16 :: a17 :: a18 :: a19 :: a20 :: a21 :: a22 :: a23 :: some (.int x) :: t) 24 = true) (hn : 24 < nL) (d : decode cc pc = .ok (.iinc 24 z, 3)) (hv : x + Int32.ofInt z = v) (k : vV p l e R s m args below meth c nL z0 D cells slots Q n ad g (pc + 3) (a0 :: a1 :: a2 :: a3 :: a4 :: a5 :: a6 :: a7 :: a8 :: a9 :: a10 :: a11 :: a12 :: a13 :: a14 :: a15 :: a16 :: a17 :: a18 :: a19 :: a20 :: a21 :: a22 :: a23 :: some (.int v) :: t) st) : vV p l e R s m args below meth c nL z0 D cells slots Q n ad g pc (a0 :: a1 :: a2 :: a3 :: a4 :: a5 :: a6 :: a7 :: a8 :: a9 :: a10 :: a11 :: a12 :: a13 :: a14 :: a15 :: a16 :: a17 :: a18 :: a19 :: a20 :: a21 :: a22 :: a23 :: some (.int x) :: t) st := fun H locs ls hS hP hD hl => by
  obtain ⟨j, hj⟩ := List.getElem?_of_mem ((prs_mem (a0 :: a1 :: a2 :: a3 :: a4 :: a5 :: a6 :: a7 :: a8 :: a9 :: a10 :: a11 :: a12 :: a13 :: a14 :: a15 :: a16 :: a17 :: a18 :: a19 :: a20 :: a21 :: a22 :: a23 :: some (.int x) :: t) 0 24 (.int x)).mpr ⟨24, by omega, rfl⟩)
  exact lv_iinc X.1 X.2.1 d hl.lv hj hv hn rfl (fun ls' hl' => k H locs ls' hS hP hD (hasL.st1 hp (by simp) hl'))
theorem v_iinc25 (X : vCx p s m args c cc own nL z0 D cy) {x v : Int32} {a0 a1 a2 a3 a4 a5 a6 a7 a8 a9 a10 a11 a12 a13 a14 a15 a16 a17 a18 a19 a20 a21 a22 a23 a24 : Option Value} {t : List (Option Value)} {z : Int} (hp : noL (a0 :: a1 :: a2 :: a3 :: a4 :: a5 :: a6 :: a7 :: a8 :: a9 :: a10 :: a11 :: a12 :: a13 :: a14 :: a15 :: a16 :: a17 :: a18 :: a19 :: a20 :: a21 :: a22 :: a23 :: a24 :: some (.int x) :: t) 25 = true) (hn : 25 < nL) (d : decode cc pc = .ok (.iinc 25 z, 3)) (hv : x + Int32.ofInt z = v) (k : vV p l e R s m args below meth c nL z0 D cells slots Q n ad g (pc + 3) (a0 :: a1 :: a2 :: a3 :: a4 :: a5 :: a6 :: a7 :: a8 :: a9 :: a10 :: a11 :: a12 :: a13 :: a14 :: a15 :: a16 :: a17 :: a18 :: a19 :: a20 :: a21 :: a22 :: a23 :: a24 :: some (.int v) :: t) st) : vV p l e R s m args below meth c nL z0 D cells slots Q n ad g pc (a0 :: a1 :: a2 :: a3 :: a4 :: a5 :: a6 :: a7 :: a8 :: a9 :: a10 :: a11 :: a12 :: a13 :: a14 :: a15 :: a16 :: a17 :: a18 :: a19 :: a20 :: a21 :: a22 :: a23 :: a24 :: some (.int x) :: t) st := fun H locs ls hS hP hD hl => by
  obtain ⟨j, hj⟩ := List.getElem?_of_mem ((prs_mem (a0 :: a1 :: a2 :: a3 :: a4 :: a5 :: a6 :: a7 :: a8 :: a9 :: a10 :: a11 :: a12 :: a13 :: a14 :: a15 :: a16 :: a17 :: a18 :: a19 :: a20 :: a21 :: a22 :: a23 :: a24 :: some (.int x) :: t) 0 25 (.int x)).mpr ⟨25, by omega, rfl⟩)
  exact lv_iinc X.1 X.2.1 d hl.lv hj hv hn rfl (fun ls' hl' => k H locs ls' hS hP hD (hasL.st1 hp (by simp) hl'))
theorem v_iinc26 (X : vCx p s m args c cc own nL z0 D cy) {x v : Int32} {a0 a1 a2 a3 a4 a5 a6 a7 a8 a9 a10 a11 a12 a13 a14 a15 a16 a17 a18 a19 a20 a21 a22 a23 a24 a25 : Option Value} {t : List (Option Value)} {z : Int} (hp : noL (a0 :: a1 :: a2 :: a3 :: a4 :: a5 :: a6 :: a7 :: a8 :: a9 :: a10 :: a11 :: a12 :: a13 :: a14 :: a15 :: a16 :: a17 :: a18 :: a19 :: a20 :: a21 :: a22 :: a23 :: a24 :: a25 :: some (.int x) :: t) 26 = true) (hn : 26 < nL) (d : decode cc pc = .ok (.iinc 26 z, 3)) (hv : x + Int32.ofInt z = v) (k : vV p l e R s m args below meth c nL z0 D cells slots Q n ad g (pc + 3) (a0 :: a1 :: a2 :: a3 :: a4 :: a5 :: a6 :: a7 :: a8 :: a9 :: a10 :: a11 :: a12 :: a13 :: a14 :: a15 :: a16 :: a17 :: a18 :: a19 :: a20 :: a21 :: a22 :: a23 :: a24 :: a25 :: some (.int v) :: t) st) : vV p l e R s m args below meth c nL z0 D cells slots Q n ad g pc (a0 :: a1 :: a2 :: a3 :: a4 :: a5 :: a6 :: a7 :: a8 :: a9 :: a10 :: a11 :: a12 :: a13 :: a14 :: a15 :: a16 :: a17 :: a18 :: a19 :: a20 :: a21 :: a22 :: a23 :: a24 :: a25 :: some (.int x) :: t) st := fun H locs ls hS hP hD hl => by
  obtain ⟨j, hj⟩ := List.getElem?_of_mem ((prs_mem (a0 :: a1 :: a2 :: a3 :: a4 :: a5 :: a6 :: a7 :: a8 :: a9 :: a10 :: a11 :: a12 :: a13 :: a14 :: a15 :: a16 :: a17 :: a18 :: a19 :: a20 :: a21 :: a22 :: a23 :: a24 :: a25 :: some (.int x) :: t) 0 26 (.int x)).mpr ⟨26, by omega, rfl⟩)
  exact lv_iinc X.1 X.2.1 d hl.lv hj hv hn rfl (fun ls' hl' => k H locs ls' hS hP hD (hasL.st1 hp (by simp) hl'))
theorem v_iinc27 (X : vCx p s m args c cc own nL z0 D cy) {x v : Int32} {a0 a1 a2 a3 a4 a5 a6 a7 a8 a9 a10 a11 a12 a13 a14 a15 a16 a17 a18 a19 a20 a21 a22 a23 a24 a25 a26 : Option Value} {t : List (Option Value)} {z : Int} (hp : noL (a0 :: a1 :: a2 :: a3 :: a4 :: a5 :: a6 :: a7 :: a8 :: a9 :: a10 :: a11 :: a12 :: a13 :: a14 :: a15 :: a16 :: a17 :: a18 :: a19 :: a20 :: a21 :: a22 :: a23 :: a24 :: a25 :: a26 :: some (.int x) :: t) 27 = true) (hn : 27 < nL) (d : decode cc pc = .ok (.iinc 27 z, 3)) (hv : x + Int32.ofInt z = v) (k : vV p l e R s m args below meth c nL z0 D cells slots Q n ad g (pc + 3) (a0 :: a1 :: a2 :: a3 :: a4 :: a5 :: a6 :: a7 :: a8 :: a9 :: a10 :: a11 :: a12 :: a13 :: a14 :: a15 :: a16 :: a17 :: a18 :: a19 :: a20 :: a21 :: a22 :: a23 :: a24 :: a25 :: a26 :: some (.int v) :: t) st) : vV p l e R s m args below meth c nL z0 D cells slots Q n ad g pc (a0 :: a1 :: a2 :: a3 :: a4 :: a5 :: a6 :: a7 :: a8 :: a9 :: a10 :: a11 :: a12 :: a13 :: a14 :: a15 :: a16 :: a17 :: a18 :: a19 :: a20 :: a21 :: a22 :: a23 :: a24 :: a25 :: a26 :: some (.int x) :: t) st := fun H locs ls hS hP hD hl => by
  obtain ⟨j, hj⟩ := List.getElem?_of_mem ((prs_mem (a0 :: a1 :: a2 :: a3 :: a4 :: a5 :: a6 :: a7 :: a8 :: a9 :: a10 :: a11 :: a12 :: a13 :: a14 :: a15 :: a16 :: a17 :: a18 :: a19 :: a20 :: a21 :: a22 :: a23 :: a24 :: a25 :: a26 :: some (.int x) :: t) 0 27 (.int x)).mpr ⟨27, by omega, rfl⟩)
  exact lv_iinc X.1 X.2.1 d hl.lv hj hv hn rfl (fun ls' hl' => k H locs ls' hS hP hD (hasL.st1 hp (by simp) hl'))
theorem v_iinc28 (X : vCx p s m args c cc own nL z0 D cy) {x v : Int32} {a0 a1 a2 a3 a4 a5 a6 a7 a8 a9 a10 a11 a12 a13 a14 a15 a16 a17 a18 a19 a20 a21 a22 a23 a24 a25 a26 a27 : Option Value} {t : List (Option Value)} {z : Int} (hp : noL (a0 :: a1 :: a2 :: a3 :: a4 :: a5 :: a6 :: a7 :: a8 :: a9 :: a10 :: a11 :: a12 :: a13 :: a14 :: a15 :: a16 :: a17 :: a18 :: a19 :: a20 :: a21 :: a22 :: a23 :: a24 :: a25 :: a26 :: a27 :: some (.int x) :: t) 28 = true) (hn : 28 < nL) (d : decode cc pc = .ok (.iinc 28 z, 3)) (hv : x + Int32.ofInt z = v) (k : vV p l e R s m args below meth c nL z0 D cells slots Q n ad g (pc + 3) (a0 :: a1 :: a2 :: a3 :: a4 :: a5 :: a6 :: a7 :: a8 :: a9 :: a10 :: a11 :: a12 :: a13 :: a14 :: a15 :: a16 :: a17 :: a18 :: a19 :: a20 :: a21 :: a22 :: a23 :: a24 :: a25 :: a26 :: a27 :: some (.int v) :: t) st) : vV p l e R s m args below meth c nL z0 D cells slots Q n ad g pc (a0 :: a1 :: a2 :: a3 :: a4 :: a5 :: a6 :: a7 :: a8 :: a9 :: a10 :: a11 :: a12 :: a13 :: a14 :: a15 :: a16 :: a17 :: a18 :: a19 :: a20 :: a21 :: a22 :: a23 :: a24 :: a25 :: a26 :: a27 :: some (.int x) :: t) st := fun H locs ls hS hP hD hl => by
  obtain ⟨j, hj⟩ := List.getElem?_of_mem ((prs_mem (a0 :: a1 :: a2 :: a3 :: a4 :: a5 :: a6 :: a7 :: a8 :: a9 :: a10 :: a11 :: a12 :: a13 :: a14 :: a15 :: a16 :: a17 :: a18 :: a19 :: a20 :: a21 :: a22 :: a23 :: a24 :: a25 :: a26 :: a27 :: some (.int x) :: t) 0 28 (.int x)).mpr ⟨28, by omega, rfl⟩)
  exact lv_iinc X.1 X.2.1 d hl.lv hj hv hn rfl (fun ls' hl' => k H locs ls' hS hP hD (hasL.st1 hp (by simp) hl'))
theorem v_iinc29 (X : vCx p s m args c cc own nL z0 D cy) {x v : Int32} {a0 a1 a2 a3 a4 a5 a6 a7 a8 a9 a10 a11 a12 a13 a14 a15 a16 a17 a18 a19 a20 a21 a22 a23 a24 a25 a26 a27 a28 : Option Value} {t : List (Option Value)} {z : Int} (hp : noL (a0 :: a1 :: a2 :: a3 :: a4 :: a5 :: a6 :: a7 :: a8 :: a9 :: a10 :: a11 :: a12 :: a13 :: a14 :: a15 :: a16 :: a17 :: a18 :: a19 :: a20 :: a21 :: a22 :: a23 :: a24 :: a25 :: a26 :: a27 :: a28 :: some (.int x) :: t) 29 = true) (hn : 29 < nL) (d : decode cc pc = .ok (.iinc 29 z, 3)) (hv : x + Int32.ofInt z = v) (k : vV p l e R s m args below meth c nL z0 D cells slots Q n ad g (pc + 3) (a0 :: a1 :: a2 :: a3 :: a4 :: a5 :: a6 :: a7 :: a8 :: a9 :: a10 :: a11 :: a12 :: a13 :: a14 :: a15 :: a16 :: a17 :: a18 :: a19 :: a20 :: a21 :: a22 :: a23 :: a24 :: a25 :: a26 :: a27 :: a28 :: some (.int v) :: t) st) : vV p l e R s m args below meth c nL z0 D cells slots Q n ad g pc (a0 :: a1 :: a2 :: a3 :: a4 :: a5 :: a6 :: a7 :: a8 :: a9 :: a10 :: a11 :: a12 :: a13 :: a14 :: a15 :: a16 :: a17 :: a18 :: a19 :: a20 :: a21 :: a22 :: a23 :: a24 :: a25 :: a26 :: a27 :: a28 :: some (.int x) :: t) st := fun H locs ls hS hP hD hl => by
  obtain ⟨j, hj⟩ := List.getElem?_of_mem ((prs_mem (a0 :: a1 :: a2 :: a3 :: a4 :: a5 :: a6 :: a7 :: a8 :: a9 :: a10 :: a11 :: a12 :: a13 :: a14 :: a15 :: a16 :: a17 :: a18 :: a19 :: a20 :: a21 :: a22 :: a23 :: a24 :: a25 :: a26 :: a27 :: a28 :: some (.int x) :: t) 0 29 (.int x)).mpr ⟨29, by omega, rfl⟩)
  exact lv_iinc X.1 X.2.1 d hl.lv hj hv hn rfl (fun ls' hl' => k H locs ls' hS hP hD (hasL.st1 hp (by simp) hl'))
theorem v_iinc30 (X : vCx p s m args c cc own nL z0 D cy) {x v : Int32} {a0 a1 a2 a3 a4 a5 a6 a7 a8 a9 a10 a11 a12 a13 a14 a15 a16 a17 a18 a19 a20 a21 a22 a23 a24 a25 a26 a27 a28 a29 : Option Value} {t : List (Option Value)} {z : Int} (hp : noL (a0 :: a1 :: a2 :: a3 :: a4 :: a5 :: a6 :: a7 :: a8 :: a9 :: a10 :: a11 :: a12 :: a13 :: a14 :: a15 :: a16 :: a17 :: a18 :: a19 :: a20 :: a21 :: a22 :: a23 :: a24 :: a25 :: a26 :: a27 :: a28 :: a29 :: some (.int x) :: t) 30 = true) (hn : 30 < nL) (d : decode cc pc = .ok (.iinc 30 z, 3)) (hv : x + Int32.ofInt z = v) (k : vV p l e R s m args below meth c nL z0 D cells slots Q n ad g (pc + 3) (a0 :: a1 :: a2 :: a3 :: a4 :: a5 :: a6 :: a7 :: a8 :: a9 :: a10 :: a11 :: a12 :: a13 :: a14 :: a15 :: a16 :: a17 :: a18 :: a19 :: a20 :: a21 :: a22 :: a23 :: a24 :: a25 :: a26 :: a27 :: a28 :: a29 :: some (.int v) :: t) st) : vV p l e R s m args below meth c nL z0 D cells slots Q n ad g pc (a0 :: a1 :: a2 :: a3 :: a4 :: a5 :: a6 :: a7 :: a8 :: a9 :: a10 :: a11 :: a12 :: a13 :: a14 :: a15 :: a16 :: a17 :: a18 :: a19 :: a20 :: a21 :: a22 :: a23 :: a24 :: a25 :: a26 :: a27 :: a28 :: a29 :: some (.int x) :: t) st := fun H locs ls hS hP hD hl => by
  obtain ⟨j, hj⟩ := List.getElem?_of_mem ((prs_mem (a0 :: a1 :: a2 :: a3 :: a4 :: a5 :: a6 :: a7 :: a8 :: a9 :: a10 :: a11 :: a12 :: a13 :: a14 :: a15 :: a16 :: a17 :: a18 :: a19 :: a20 :: a21 :: a22 :: a23 :: a24 :: a25 :: a26 :: a27 :: a28 :: a29 :: some (.int x) :: t) 0 30 (.int x)).mpr ⟨30, by omega, rfl⟩)
  exact lv_iinc X.1 X.2.1 d hl.lv hj hv hn rfl (fun ls' hl' => k H locs ls' hS hP hD (hasL.st1 hp (by simp) hl'))
theorem v_iadd (X : vCx p s m args c cc own nL z0 D cy) {x y : Int32} (d : decode cc pc = .ok (.iadd, 1))  (k : vV p l e R s m args below meth c nL z0 D cells slots Q n ad g (pc + 1) L (.int (x + y) :: st)) : vV p l e R s m args below meth c nL z0 D cells slots Q n ad g pc L (.int y :: .int x :: st) := fun H locs ls hS hP hD hl => lv_iadd X.1 X.2.1 d (k H locs ls hS hP hD hl)
theorem v_isub (X : vCx p s m args c cc own nL z0 D cy) {x y : Int32} (d : decode cc pc = .ok (.isub, 1))  (k : vV p l e R s m args below meth c nL z0 D cells slots Q n ad g (pc + 1) L (.int (x - y) :: st)) : vV p l e R s m args below meth c nL z0 D cells slots Q n ad g pc L (.int y :: .int x :: st) := fun H locs ls hS hP hD hl => lv_isub X.1 X.2.1 d (k H locs ls hS hP hD hl)
theorem v_imul (X : vCx p s m args c cc own nL z0 D cy) {x y : Int32} (d : decode cc pc = .ok (.imul, 1))  (k : vV p l e R s m args below meth c nL z0 D cells slots Q n ad g (pc + 1) L (.int (x * y) :: st)) : vV p l e R s m args below meth c nL z0 D cells slots Q n ad g pc L (.int y :: .int x :: st) := fun H locs ls hS hP hD hl => lv_imul X.1 X.2.1 d (k H locs ls hS hP hD hl)
theorem v_iand (X : vCx p s m args c cc own nL z0 D cy) {x y : Int32} (d : decode cc pc = .ok (.iand, 1))  (k : vV p l e R s m args below meth c nL z0 D cells slots Q n ad g (pc + 1) L (.int (x &&& y) :: st)) : vV p l e R s m args below meth c nL z0 D cells slots Q n ad g pc L (.int y :: .int x :: st) := fun H locs ls hS hP hD hl => lv_iand X.1 X.2.1 d (k H locs ls hS hP hD hl)
theorem v_ixor (X : vCx p s m args c cc own nL z0 D cy) {x y : Int32} (d : decode cc pc = .ok (.ixor, 1))  (k : vV p l e R s m args below meth c nL z0 D cells slots Q n ad g (pc + 1) L (.int (x ^^^ y) :: st)) : vV p l e R s m args below meth c nL z0 D cells slots Q n ad g pc L (.int y :: .int x :: st) := fun H locs ls hS hP hD hl => lv_ixor X.1 X.2.1 d (k H locs ls hS hP hD hl)
theorem v_ishr (X : vCx p s m args c cc own nL z0 D cy) {x y : Int32} (d : decode cc pc = .ok (.ishr, 1))  (k : vV p l e R s m args below meth c nL z0 D cells slots Q n ad g (pc + 1) L (.int (x >>> (y &&& 31)) :: st)) : vV p l e R s m args below meth c nL z0 D cells slots Q n ad g pc L (.int y :: .int x :: st) := fun H locs ls hS hP hD hl => lv_ishr X.1 X.2.1 d (k H locs ls hS hP hD hl)
theorem v_idiv (X : vCx p s m args c cc own nL z0 D cy) {x y : Int32} (d : decode cc pc = .ok (.idiv, 1)) (h0 : ¬ y = 0) (k : vV p l e R s m args below meth c nL z0 D cells slots Q n ad g (pc + 1) L (.int (x / y) :: st)) : vV p l e R s m args below meth c nL z0 D cells slots Q n ad g pc L (.int y :: .int x :: st) := fun H locs ls hS hP hD hl => lv_idiv X.1 X.2.1 d h0 (k H locs ls hS hP hD hl)
theorem v_irem (X : vCx p s m args c cc own nL z0 D cy) {x y : Int32} (d : decode cc pc = .ok (.irem, 1)) (h0 : ¬ y = 0) (k : vV p l e R s m args below meth c nL z0 D cells slots Q n ad g (pc + 1) L (.int (x - x / y * y) :: st)) : vV p l e R s m args below meth c nL z0 D cells slots Q n ad g pc L (.int y :: .int x :: st) := fun H locs ls hS hP hD hl => lv_irem X.1 X.2.1 d h0 (k H locs ls hS hP hD hl)
theorem v_ineg (X : vCx p s m args c cc own nL z0 D cy) {x : Int32} (d : decode cc pc = .ok (.ineg, 1))  (k : vV p l e R s m args below meth c nL z0 D cells slots Q n ad g (pc + 1) L (.int (-x) :: st)) : vV p l e R s m args below meth c nL z0 D cells slots Q n ad g pc L (.int x :: st) := fun H locs ls hS hP hD hl => lv_ineg X.1 X.2.1 d (k H locs ls hS hP hD hl)
theorem v_ladd (X : vCx p s m args c cc own nL z0 D cy) {x y : Int64} (d : decode cc pc = .ok (.ladd, 1))  (k : vV p l e R s m args below meth c nL z0 D cells slots Q n ad g (pc + 1) L (.long (x + y) :: st)) : vV p l e R s m args below meth c nL z0 D cells slots Q n ad g pc L (.long y :: .long x :: st) := fun H locs ls hS hP hD hl => lv_ladd X.1 X.2.1 d (k H locs ls hS hP hD hl)
theorem v_lmul (X : vCx p s m args c cc own nL z0 D cy) {x y : Int64} (d : decode cc pc = .ok (.lmul, 1))  (k : vV p l e R s m args below meth c nL z0 D cells slots Q n ad g (pc + 1) L (.long (x * y) :: st)) : vV p l e R s m args below meth c nL z0 D cells slots Q n ad g pc L (.long y :: .long x :: st) := fun H locs ls hS hP hD hl => lv_lmul X.1 X.2.1 d (k H locs ls hS hP hD hl)
theorem v_i2l (X : vCx p s m args c cc own nL z0 D cy) {x : Int32} (d : decode cc pc = .ok (.i2l, 1))  (k : vV p l e R s m args below meth c nL z0 D cells slots Q n ad g (pc + 1) L (.long x.toInt64 :: st)) : vV p l e R s m args below meth c nL z0 D cells slots Q n ad g pc L (.int x :: st) := fun H locs ls hS hP hD hl => lv_i2l X.1 X.2.1 d rfl (k H locs ls hS hP hD hl)
theorem v_i2d (X : vCx p s m args c cc own nL z0 D cy) {x : Int32} (d : decode cc pc = .ok (.i2d, 1))  (k : vV p l e R s m args below meth c nL z0 D cells slots Q n ad g (pc + 1) L (.double (FP.i2d x) :: st)) : vV p l e R s m args below meth c nL z0 D cells slots Q n ad g pc L (.int x :: st) := fun H locs ls hS hP hD hl => lv_i2d X.1 X.2.1 d (k H locs ls hS hP hD hl)
theorem v_ddiv (X : vCx p s m args c cc own nL z0 D cy) {x y : UInt64} (d : decode cc pc = .ok (.ddiv, 1)) (h0 : vf_n64 (FP.ddiv x y)) (k : vV p l e R s m args below meth c nL z0 D cells slots Q n ad g (pc + 1) L (.double (FP.ddiv x y) :: st)) : vV p l e R s m args below meth c nL z0 D cells slots Q n ad g pc L (.double y :: .double x :: st) := fun H locs ls hS hP hD hl => lv_ddiv X.1 X.2.1 d h0 (k H locs ls hS hP hD hl)
theorem v_dcon (X : vCx p s m args c cc own nL z0 D cy)  (d : decode cc pc = .ok (.dconst 0, 1))  (k : vV p l e R s m args below meth c nL z0 D cells slots Q n ad g (pc + 1) L (.double 0 :: st)) : vV p l e R s m args below meth c nL z0 D cells slots Q n ad g pc L st := fun H locs ls hS hP hD hl => lv_dconst0 X.1 X.2.1 d (k H locs ls hS hP hD hl)
theorem v_dcmp (X : vCx p s m args c cc own nL z0 D cy) {x y : UInt64} {op : CmpOp} (d : decode cc pc = .ok (.dcmp op, 1))  (k : vV p l e R s m args below meth c nL z0 D cells slots Q n ad g (pc + 1) L (.int (Op.cmpValue (FP.dcmp x y) op) :: st)) : vV p l e R s m args below meth c nL z0 D cells slots Q n ad g pc L (.double y :: .double x :: st) := fun H locs ls hS hP hD hl => lv_dcmp X.1 X.2.1 d (k H locs ls hS hP hD hl)
theorem v_dup (X : vCx p s m args c cc own nL z0 D cy) {v : Value} (d : decode cc pc = .ok (.dup, 1)) (hc : v.category = 1) (k : vV p l e R s m args below meth c nL z0 D cells slots Q n ad g (pc + 1) L (v :: v :: st)) : vV p l e R s m args below meth c nL z0 D cells slots Q n ad g pc L (v :: st) := fun H locs ls hS hP hD hl => lv_dup X.1 X.2.1 d hc (k H locs ls hS hP hD hl)
theorem v_pop (X : vCx p s m args c cc own nL z0 D cy) {v : Value} (d : decode cc pc = .ok (.pop, 1)) (hc : v.category = 1) (k : vV p l e R s m args below meth c nL z0 D cells slots Q n ad g (pc + 1) L st) : vV p l e R s m args below meth c nL z0 D cells slots Q n ad g pc L (v :: st) := fun H locs ls hS hP hD hl => lv_pop X.1 X.2.1 d hc (k H locs ls hS hP hD hl)
theorem v_dup_x1 (X : vCx p s m args c cc own nL z0 D cy) {v u : Value} (d : decode cc pc = .ok (.dup_x1, 1)) (hc : v.category = 1) (hd : u.category = 1) (k : vV p l e R s m args below meth c nL z0 D cells slots Q n ad g (pc + 1) L (v :: u :: v :: st)) : vV p l e R s m args below meth c nL z0 D cells slots Q n ad g pc L (v :: u :: st) := fun H locs ls hS hP hD hl => lv_dup_x1 X.1 X.2.1 d hc hd (k H locs ls hS hP hD hl)
theorem v_dup2 (X : vCx p s m args c cc own nL z0 D cy) {v u : Value} (d : decode cc pc = .ok (.dup2, 1)) (hc : v.category = 1) (hd : u.category = 1) (k : vV p l e R s m args below meth c nL z0 D cells slots Q n ad g (pc + 1) L (v :: u :: v :: u :: st)) : vV p l e R s m args below meth c nL z0 D cells slots Q n ad g pc L (v :: u :: st) := fun H locs ls hS hP hD hl => lv_dup2_11 X.1 X.2.1 d hc hd (k H locs ls hS hP hD hl)
theorem v_goto (X : vCx p s m args c cc own nL z0 D cy) {off : Int} {tgt : Nat} (d : decode cc pc = .ok (.goto off, 3)) (ht : (pc : Int) + off = (tgt : Int)) (k : vV p l e R s m args below meth c nL z0 D cells slots Q n ad g tgt L st) : vV p l e R s m args below meth c nL z0 D cells slots Q n ad g pc L st := fun H locs ls hS hP hD hl => lv_goto X.1 X.2.1 d ht (k H locs ls hS hP hD hl)
theorem v_if_eq (X : vCx p s m args c cc own nL z0 D cy) {x : Int32} {off : Int} {tgt : Nat} (d : decode cc pc = .ok (.ifCond .eq off, 3)) (ht : (pc : Int) + off = (tgt : Int)) (kt : x = 0 → vV p l e R s m args below meth c nL z0 D cells slots Q n ad g tgt L st) (kf : ¬ x = 0 → vV p l e R s m args below meth c nL z0 D cells slots Q n ad g (pc + 3) L st) : vV p l e R s m args below meth c nL z0 D cells slots Q n ad g pc L (.int x :: st) := fun H locs ls hS hP hD hl => lv_if_eq X.1 X.2.1 d ht (fun h => kt h H locs ls hS hP hD hl) (fun h => kf h H locs ls hS hP hD hl)
theorem v_icmp_eq (X : vCx p s m args c cc own nL z0 D cy) {x y : Int32} {off : Int} {tgt : Nat} (d : decode cc pc = .ok (.if_icmp .eq off, 3)) (ht : (pc : Int) + off = (tgt : Int)) (kt : x = y → vV p l e R s m args below meth c nL z0 D cells slots Q n ad g tgt L st) (kf : ¬ x = y → vV p l e R s m args below meth c nL z0 D cells slots Q n ad g (pc + 3) L st) : vV p l e R s m args below meth c nL z0 D cells slots Q n ad g pc L (.int y :: .int x :: st) := fun H locs ls hS hP hD hl => lv_icmp_eq X.1 X.2.1 d ht (fun h => kt h H locs ls hS hP hD hl) (fun h => kf h H locs ls hS hP hD hl)
theorem v_if_ne (X : vCx p s m args c cc own nL z0 D cy) {x : Int32} {off : Int} {tgt : Nat} (d : decode cc pc = .ok (.ifCond .ne off, 3)) (ht : (pc : Int) + off = (tgt : Int)) (kt : ¬ x = 0 → vV p l e R s m args below meth c nL z0 D cells slots Q n ad g tgt L st) (kf : x = 0 → vV p l e R s m args below meth c nL z0 D cells slots Q n ad g (pc + 3) L st) : vV p l e R s m args below meth c nL z0 D cells slots Q n ad g pc L (.int x :: st) := fun H locs ls hS hP hD hl => lv_if_ne X.1 X.2.1 d ht (fun h => kt h H locs ls hS hP hD hl) (fun h => kf h H locs ls hS hP hD hl)
theorem v_icmp_ne (X : vCx p s m args c cc own nL z0 D cy) {x y : Int32} {off : Int} {tgt : Nat} (d : decode cc pc = .ok (.if_icmp .ne off, 3)) (ht : (pc : Int) + off = (tgt : Int)) (kt : ¬ x = y → vV p l e R s m args below meth c nL z0 D cells slots Q n ad g tgt L st) (kf : x = y → vV p l e R s m args below meth c nL z0 D cells slots Q n ad g (pc + 3) L st) : vV p l e R s m args below meth c nL z0 D cells slots Q n ad g pc L (.int y :: .int x :: st) := fun H locs ls hS hP hD hl => lv_icmp_ne X.1 X.2.1 d ht (fun h => kt h H locs ls hS hP hD hl) (fun h => kf h H locs ls hS hP hD hl)
theorem v_if_lt (X : vCx p s m args c cc own nL z0 D cy) {x : Int32} {off : Int} {tgt : Nat} (d : decode cc pc = .ok (.ifCond .lt off, 3)) (ht : (pc : Int) + off = (tgt : Int)) (kt : x < 0 → vV p l e R s m args below meth c nL z0 D cells slots Q n ad g tgt L st) (kf : ¬ x < 0 → vV p l e R s m args below meth c nL z0 D cells slots Q n ad g (pc + 3) L st) : vV p l e R s m args below meth c nL z0 D cells slots Q n ad g pc L (.int x :: st) := fun H locs ls hS hP hD hl => lv_if_lt X.1 X.2.1 d ht (fun h => kt h H locs ls hS hP hD hl) (fun h => kf h H locs ls hS hP hD hl)
theorem v_icmp_lt (X : vCx p s m args c cc own nL z0 D cy) {x y : Int32} {off : Int} {tgt : Nat} (d : decode cc pc = .ok (.if_icmp .lt off, 3)) (ht : (pc : Int) + off = (tgt : Int)) (kt : x < y → vV p l e R s m args below meth c nL z0 D cells slots Q n ad g tgt L st) (kf : ¬ x < y → vV p l e R s m args below meth c nL z0 D cells slots Q n ad g (pc + 3) L st) : vV p l e R s m args below meth c nL z0 D cells slots Q n ad g pc L (.int y :: .int x :: st) := fun H locs ls hS hP hD hl => lv_icmp_lt X.1 X.2.1 d ht (fun h => kt h H locs ls hS hP hD hl) (fun h => kf h H locs ls hS hP hD hl)
theorem v_if_ge (X : vCx p s m args c cc own nL z0 D cy) {x : Int32} {off : Int} {tgt : Nat} (d : decode cc pc = .ok (.ifCond .ge off, 3)) (ht : (pc : Int) + off = (tgt : Int)) (kt : 0 ≤ x → vV p l e R s m args below meth c nL z0 D cells slots Q n ad g tgt L st) (kf : ¬ 0 ≤ x → vV p l e R s m args below meth c nL z0 D cells slots Q n ad g (pc + 3) L st) : vV p l e R s m args below meth c nL z0 D cells slots Q n ad g pc L (.int x :: st) := fun H locs ls hS hP hD hl => lv_if_ge X.1 X.2.1 d ht (fun h => kt h H locs ls hS hP hD hl) (fun h => kf h H locs ls hS hP hD hl)
theorem v_icmp_ge (X : vCx p s m args c cc own nL z0 D cy) {x y : Int32} {off : Int} {tgt : Nat} (d : decode cc pc = .ok (.if_icmp .ge off, 3)) (ht : (pc : Int) + off = (tgt : Int)) (kt : y ≤ x → vV p l e R s m args below meth c nL z0 D cells slots Q n ad g tgt L st) (kf : ¬ y ≤ x → vV p l e R s m args below meth c nL z0 D cells slots Q n ad g (pc + 3) L st) : vV p l e R s m args below meth c nL z0 D cells slots Q n ad g pc L (.int y :: .int x :: st) := fun H locs ls hS hP hD hl => lv_icmp_ge X.1 X.2.1 d ht (fun h => kt h H locs ls hS hP hD hl) (fun h => kf h H locs ls hS hP hD hl)
theorem v_if_gt (X : vCx p s m args c cc own nL z0 D cy) {x : Int32} {off : Int} {tgt : Nat} (d : decode cc pc = .ok (.ifCond .gt off, 3)) (ht : (pc : Int) + off = (tgt : Int)) (kt : 0 < x → vV p l e R s m args below meth c nL z0 D cells slots Q n ad g tgt L st) (kf : ¬ 0 < x → vV p l e R s m args below meth c nL z0 D cells slots Q n ad g (pc + 3) L st) : vV p l e R s m args below meth c nL z0 D cells slots Q n ad g pc L (.int x :: st) := fun H locs ls hS hP hD hl => lv_if_gt X.1 X.2.1 d ht (fun h => kt h H locs ls hS hP hD hl) (fun h => kf h H locs ls hS hP hD hl)
theorem v_icmp_gt (X : vCx p s m args c cc own nL z0 D cy) {x y : Int32} {off : Int} {tgt : Nat} (d : decode cc pc = .ok (.if_icmp .gt off, 3)) (ht : (pc : Int) + off = (tgt : Int)) (kt : y < x → vV p l e R s m args below meth c nL z0 D cells slots Q n ad g tgt L st) (kf : ¬ y < x → vV p l e R s m args below meth c nL z0 D cells slots Q n ad g (pc + 3) L st) : vV p l e R s m args below meth c nL z0 D cells slots Q n ad g pc L (.int y :: .int x :: st) := fun H locs ls hS hP hD hl => lv_icmp_gt X.1 X.2.1 d ht (fun h => kt h H locs ls hS hP hD hl) (fun h => kf h H locs ls hS hP hD hl)
theorem v_if_le (X : vCx p s m args c cc own nL z0 D cy) {x : Int32} {off : Int} {tgt : Nat} (d : decode cc pc = .ok (.ifCond .le off, 3)) (ht : (pc : Int) + off = (tgt : Int)) (kt : x ≤ 0 → vV p l e R s m args below meth c nL z0 D cells slots Q n ad g tgt L st) (kf : ¬ x ≤ 0 → vV p l e R s m args below meth c nL z0 D cells slots Q n ad g (pc + 3) L st) : vV p l e R s m args below meth c nL z0 D cells slots Q n ad g pc L (.int x :: st) := fun H locs ls hS hP hD hl => lv_if_le X.1 X.2.1 d ht (fun h => kt h H locs ls hS hP hD hl) (fun h => kf h H locs ls hS hP hD hl)
theorem v_icmp_le (X : vCx p s m args c cc own nL z0 D cy) {x y : Int32} {off : Int} {tgt : Nat} (d : decode cc pc = .ok (.if_icmp .le off, 3)) (ht : (pc : Int) + off = (tgt : Int)) (kt : x ≤ y → vV p l e R s m args below meth c nL z0 D cells slots Q n ad g tgt L st) (kf : ¬ x ≤ y → vV p l e R s m args below meth c nL z0 D cells slots Q n ad g (pc + 3) L st) : vV p l e R s m args below meth c nL z0 D cells slots Q n ad g pc L (.int y :: .int x :: st) := fun H locs ls hS hP hD hl => lv_icmp_le X.1 X.2.1 d ht (fun h => kt h H locs ls hS hP hD hl) (fun h => kf h H locs ls hS hP hD hl)
theorem v_get (X : vCx p s m args c cc own nL z0 D cy) {ref C : String} {T : u_T} {N ci index k fi : Nat} {fs : List Value} {v : Value} (d : decode cc pc = .ok (.getfield index, 3)) (hin : ∀ w ∈ u_ws C T N, w ∈ UW) (hlink : Cond.fieldLink own index ref (T fi).2.1 (T fi).2.2.1 ∈ UW) (hc : vwCl[ci]? = some (C, T, N)) (hfi : fi < N) (href : (T fi).1 = ref) (hg : vAt n g k (.inr (ci, fs))) (hv : fs[fi]? = some v) (kk : vV p l e R s m args below meth c nL z0 D cells slots Q n ad g (pc + 3) L (v :: st)) : vV p l e R s m args below meth c nL z0 D cells slots Q n ad g pc L (.ref (ad k) :: st) := fun H locs ls hS hP hD hl =>
  va_get X.1 X.2.1 X.2.2.2.2.1 hin X.2.2.2.1 X.2.2.2.2.2.1 hP k (wl_at hg) hc fi hfi (X.2.2.2.2.1 _ hlink) (fun _ h => href ▸ h) hv d (kk H locs ls hS hP hD hl)
theorem v_put (X : vCx p s m args c cc own nL z0 D cy) {ref C : String} {T : u_T} {N ci index k fi : Nat} {fs : List Value} {v : Value} {ty : FieldType} {ty0 : Nat → FieldType} (d : decode cc pc = .ok (.putfield index, 3)) (hin : ∀ w ∈ u_ws C T N, w ∈ UW) (hlink : Cond.fieldLink own index ref (T fi).2.1 (T fi).2.2.1 ∈ UW) (hty : ∀ k, k < N → parseFieldDescriptor (T k).2.2.1 = some (ty0 k)) (hnm : ∀ a, a < N → ∀ b, b < N → a ≠ b → (T a).2.1 ≠ (T b).2.1) (hc : vwCl[ci]? = some (C, T, N)) (hfi : fi < N) (href : (T fi).1 = ref) (hfin : (T fi).2.2.2 = false) (hd : parseFieldDescriptor (T fi).2.2.1 = some ty) (hg : vAt n g k (.inr (ci, fs))) (hn : narrow ty v = v) (hfit : fits ty v = true) (hlen : fi < fs.length) (kk : vV p l e R s m args below meth c nL z0 D cells slots Q n ad (va_up g k (.inr (ci, fs.set fi v))) (pc + 3) L st) : vV p l e R s m args below meth c nL z0 D cells slots Q n ad g pc L (v :: .ref (ad k) :: st) := fun H locs ls hS hP hD hl =>
  va_put X.1 X.2.1 X.2.2.2.2.1 hin ty0 hty hnm X.2.2.2.1 X.2.2.2.2.2.1 hP hD hS k (wl_at hg) hc fi hfi (X.2.2.2.2.1 _ hlink) (fun _ h => href ▸ h) hfin hd hn hfit hlen d (fun H1 locs1 hP1 hD1 hS1 => kk H1 locs1 ls hS1 (wl_set hg.1 ▸ hP1) (wl_set hg.1 ▸ hD1) hl)
theorem v_putF (X : vCx p s m args c cc own nL z0 D cy) {ref C : String} {T : u_T} {N ci index k fi : Nat} {fs : List Value} {v : Value} {ty : FieldType} {ty0 : Nat → FieldType} (d : decode cc pc = .ok (.putfield index, 3)) (hin : ∀ w ∈ u_ws C T N, w ∈ UW) (hlink : Cond.fieldLink own index ref (T fi).2.1 (T fi).2.2.1 ∈ UW) (hty : ∀ k, k < N → parseFieldDescriptor (T k).2.2.1 = some (ty0 k)) (hnm : ∀ a, a < N → ∀ b, b < N → a ≠ b → (T a).2.1 ≠ (T b).2.1) (hc : vwCl[ci]? = some (C, T, N)) (hfi : fi < N) (href : (T fi).1 = ref) (hfin : (T fi).2.2.2 = true) (hini : meth.name = "<init>") (hdec : (T fi).1 = own) (hd : parseFieldDescriptor (T fi).2.2.1 = some ty) (hg : vAt n g k (.inr (ci, fs))) (hn : narrow ty v = v) (hfit : fits ty v = true) (hlen : fi < fs.length) (kk : vV p l e R s m args below meth c nL z0 D cells slots Q n ad (va_up g k (.inr (ci, fs.set fi v))) (pc + 3) L st) : vV p l e R s m args below meth c nL z0 D cells slots Q n ad g pc L (v :: .ref (ad k) :: st) := fun H locs ls hS hP hD hl =>
  va_putF X.1 X.2.1 X.2.2.2.2.1 hin ty0 hty hnm X.2.2.2.1 X.2.2.2.2.2.1 hP hD hS k (wl_at hg) hc fi hfi (X.2.2.2.2.1 _ hlink) (fun _ h => href ▸ h) hfin hini hdec hd hn hfit hlen d (fun H1 locs1 hP1 hD1 hS1 => kk H1 locs1 ls hS1 (wl_set hg.1 ▸ hP1) (wl_set hg.1 ▸ hD1) hl)
theorem v_aald (X : vCx p s m args c cc own nL z0 D cy) {k t0 N j a : Nat} {C : String} {x : Int32} {f : Nat → Option Nat} (d : decode cc pc = .ok (.aaload, 1)) (hg : vAt n g k (.inl (cy t0, N, .inr (.inr (.inr (.inr f)))))) (ht : (tysV cy)[t0]? = some (cy t0, .object C)) (hx : x = nI j) (hj : j < N) (hN : N < 2 ^ 31) (hf : f j = some a) (kk : vV p l e R s m args below meth c nL z0 D cells slots Q n ad g (pc + 1) L (.ref a :: st)) : vV p l e R s m args below meth c nL z0 D cells slots Q n ad g pc L (.int x :: .ref (ad k) :: st) := fun H locs ls hS hP hD hl => by
  subst hx
  refine va_aldq X.1 X.2.1 X.2.2.2.2.2.1 hP k t0 (wl_at hg) ht (vp_in_nI hj hN) d ?_
  rw [nI_clamp (by omega), hf]
  exact kk H locs ls hS hP hD hl
theorem v_iald (X : vCx p s m args c cc own nL z0 D cy) {k N j : Nat} {x : Int32} {f : Nat → Int32} (d : decode cc pc = .ok (.iaload, 1)) (hg : vAt n g k (.inl (cy 0, N, .inl f))) (hx : x = nI j) (hj : j < N) (hN : N < 2 ^ 31) (kk : vV p l e R s m args below meth c nL z0 D cells slots Q n ad g (pc + 1) L (.int (f j) :: st)) : vV p l e R s m args below meth c nL z0 D cells slots Q n ad g pc L (.int x :: .ref (ad k) :: st) := fun H locs ls hS hP hD hl => by
  subst hx
  refine va_iald X.1 X.2.1 X.2.2.2.2.2.1 hP k 0 (wl_at hg) rfl (vp_in_nI hj hN) d ?_
  rw [nI_clamp (by omega)]
  exact kk H locs ls hS hP hD hl
theorem v_iast (X : vCx p s m args c cc own nL z0 D cy) {k N j : Nat} {x y : Int32} {f : Nat → Int32} (d : decode cc pc = .ok (.iastore, 1)) (hg : vAt n g k (.inl (cy 0, N, .inl f))) (hx : x = nI j) (hj : j < N) (hN : N < 2 ^ 31) (kk : vV p l e R s m args below meth c nL z0 D cells slots Q n ad (va_up g k (.inl (cy 0, N, .inl (upd f j y)))) (pc + 1) L st) : vV p l e R s m args below meth c nL z0 D cells slots Q n ad g pc L (.int y :: .int x :: .ref (ad k) :: st) := fun H locs ls hS hP hD hl => by
  subst hx
  refine va_iast X.1 X.2.1 X.2.2.2.2.2.1 hP hD hS k 0 (wl_at hg) rfl (vp_in_nI hj hN) d (fun H1 locs1 hP1 hD1 hS1 => ?_)
  rw [nI_clamp (by omega), wl_set hg.1] at hP1 hD1
  exact kk H1 locs1 ls hS1 hP1 hD1 hl
theorem v_mmin (X : vCx p s m args c cc own nL z0 D cy) {index : Nat} {x y : Int32} (d : decode cc pc = .ok (.invokestatic index, 3)) (hlink : Cond.methodLink own index Lib.Math.min.name ∈ UW) (hstat : Cond.static Lib.Math.min.name ∈ UW) (hini : Cond.initialized "java/lang/Math" ∈ UW) (hcode : Cond.code Lib.Math.min.name Lib.Math.min.code 2 (some .int) ∈ UW) (hR : 1 ≤ R.frames ∧ (st.map fun v => v.category).sum + 13 ≤ R.locals ∧ cells ≤ R.cells ∧ slots ≤ R.slots) (kk : vV p l e R s m args below meth c nL z0 D cells slots Q n ad g (pc + 3) L (.int (if y < x then y else x) :: st)) : vV p l e R s m args below meth c nL z0 D cells slots Q n ad g pc L (.int y :: .int x :: st) := fun H locs ls hS hP hD hl =>
  va_mmin X.1 X.2.1 (X.2.2.1.trans hl.1.symm) X.2.2.2.1 (X.2.2.2.2.1 _ hlink) (X.2.2.2.2.1 _ hstat) (X.2.2.2.2.1 _ hini) (X.2.2.2.2.1 _ hcode) hR.1 hR.2.1 hR.2.2.1 hR.2.2.2 d (kk H locs ls hS hP hD hl)
theorem v_mmax (X : vCx p s m args c cc own nL z0 D cy) {index : Nat} {x y : Int32} (d : decode cc pc = .ok (.invokestatic index, 3)) (hlink : Cond.methodLink own index Lib.Math.max.name ∈ UW) (hstat : Cond.static Lib.Math.max.name ∈ UW) (hini : Cond.initialized "java/lang/Math" ∈ UW) (hcode : Cond.code Lib.Math.max.name Lib.Math.max.code 2 (some .int) ∈ UW) (hR : 1 ≤ R.frames ∧ (st.map fun v => v.category).sum + 13 ≤ R.locals ∧ cells ≤ R.cells ∧ slots ≤ R.slots) (kk : vV p l e R s m args below meth c nL z0 D cells slots Q n ad g (pc + 3) L (.int (if x < y then y else x) :: st)) : vV p l e R s m args below meth c nL z0 D cells slots Q n ad g pc L (.int y :: .int x :: st) := fun H locs ls hS hP hD hl =>
  va_mmax X.1 X.2.1 (X.2.2.1.trans hl.1.symm) X.2.2.2.1 (X.2.2.2.2.1 _ hlink) (X.2.2.2.2.1 _ hstat) (X.2.2.2.2.1 _ hini) (X.2.2.2.2.1 _ hcode) hR.1 hR.2.1 hR.2.2.1 hR.2.2.2 d (kk H locs ls hS hP hD hl)
theorem v_mabs (X : vCx p s m args c cc own nL z0 D cy) {index : Nat} {x : Int32} (d : decode cc pc = .ok (.invokestatic index, 3)) (hlink : Cond.methodLink own index Lib.Math.abs.name ∈ UW) (hstat : Cond.static Lib.Math.abs.name ∈ UW) (hini : Cond.initialized "java/lang/Math" ∈ UW) (hcode : Cond.code Lib.Math.abs.name Lib.Math.abs.code 1 (some .int) ∈ UW) (hR : 1 ≤ R.frames ∧ (st.map fun v => v.category).sum + 13 ≤ R.locals ∧ cells ≤ R.cells ∧ slots ≤ R.slots) (kk : vV p l e R s m args below meth c nL z0 D cells slots Q n ad g (pc + 3) L (.int (if 0 ≤ x then x else 0 - x) :: st)) : vV p l e R s m args below meth c nL z0 D cells slots Q n ad g pc L (.int x :: st) := fun H locs ls hS hP hD hl =>
  va_mabs X.1 X.2.1 (X.2.2.1.trans hl.1.symm) X.2.2.2.1 (X.2.2.2.2.1 _ hlink) (X.2.2.2.2.1 _ hstat) (X.2.2.2.2.1 _ hini) (X.2.2.2.2.1 _ hcode) hR.1 hR.2.1 hR.2.2.1 hR.2.2.2 d (kk H locs ls hS hP hD hl)
theorem v_tabIn (X : vCx p s m args c cc own nL z0 D cy) {dflt lo hi : Int} {offs : Array Int} {len : Nat} {x : Int32} {off : Int} {tgt : Nat} (d : decode cc pc = .ok (.tableswitch dflt lo hi offs, len)) (h1 : ¬ x.toInt < lo) (h2 : ¬ hi < x.toInt) (ho : offs[(x.toInt - lo).toNat]? = some off) (ht : (pc : Int) + off = (tgt : Int)) (kk : vV p l e R s m args below meth c nL z0 D cells slots Q n ad g tgt L st) : vV p l e R s m args below meth c nL z0 D cells slots Q n ad g pc L (.int x :: st) := fun H locs ls hS hP hD hl => lv_tableIn X.1 X.2.1 d h1 h2 ho ht (kk H locs ls hS hP hD hl)
theorem v_tabOut (X : vCx p s m args c cc own nL z0 D cy) {dflt lo hi : Int} {offs : Array Int} {len : Nat} {x : Int32} {tgt : Nat} (d : decode cc pc = .ok (.tableswitch dflt lo hi offs, len)) (h : x.toInt < lo ∨ hi < x.toInt) (ht : (pc : Int) + dflt = (tgt : Int)) (kk : vV p l e R s m args below meth c nL z0 D cells slots Q n ad g tgt L st) : vV p l e R s m args below meth c nL z0 D cells slots Q n ad g pc L (.int x :: st) := fun H locs ls hS hP hD hl => lv_tableOut X.1 X.2.1 d h ht (kk H locs ls hS hP hD hl)
theorem v_look (X : vCx p s m args c cc own nL z0 D cy) {dflt : Int} {ps : Array (Int × Int)} {len : Nat} {x : Int32} {off : Int} {tgt : Nat} (d : decode cc pc = .ok (.lookupswitch dflt ps, len)) (hp : (ps.toList.zip (ps.toList.drop 1)).all (fun (a, next) => a.1 < next.1) = true) (ho : Op.lookupswitch.offset ps.toList dflt x.toInt = off) (ht : (pc : Int) + off = (tgt : Int)) (kk : vV p l e R s m args below meth c nL z0 D cells slots Q n ad g tgt L st) : vV p l e R s m args below meth c nL z0 D cells slots Q n ad g pc L (.int x :: st) := fun H locs ls hS hP hD hl => lv_lookup X.1 X.2.1 d hp ho ht (kk H locs ls hS hP hD hl)
theorem v_ldc2 (X : vCx p s m args c cc own nL z0 D cy) {index : Nat} {v : Int64} (d : decode cc pc = .ok (.ldc2_w index, 3)) (hc : Cond.constantLong own index v ∈ UW) (kk : vV p l e R s m args below meth c nL z0 D cells slots Q n ad g (pc + 3) L (.long v :: st)) : vV p l e R s m args below meth c nL z0 D cells slots Q n ad g pc L st := fun H locs ls hS hP hD hl => lv_ldc2 X.1 X.2.1 X.2.2.2.1 (X.2.2.2.2.1 _ hc) d (kk H locs ls hS hP hD hl)
theorem v_ldc (X : vCx p s m args c cc own nL z0 D cy) {index : Nat} {v : Int32} (d : decode cc pc = .ok (.ldc index, 2)) (hc : Cond.constant own index v ∈ UW) (kk : vV p l e R s m args below meth c nL z0 D cells slots Q n ad g (pc + 2) L (.int v :: st)) : vV p l e R s m args below meth c nL z0 D cells slots Q n ad g pc L st := fun H locs ls hS hP hD hl => lv_ldc X.1 X.2.1 X.2.2.2.1 (X.2.2.2.2.1 _ hc) d (kk H locs ls hS hP hD hl)
theorem v_nonnull (X : vCx p s m args c cc own nL z0 D cy) {off : Int} {tgt x : Nat} (d : decode cc pc = .ok (.ifnonnull off, 3)) (ht : (pc : Int) + off = (tgt : Int)) (kk : vV p l e R s m args below meth c nL z0 D cells slots Q n ad g tgt L st) : vV p l e R s m args below meth c nL z0 D cells slots Q n ad g pc L (.ref x :: st) := fun H locs ls hS hP hD hl => lv_ifnonnull X.1 X.2.1 d ht (kk H locs ls hS hP hD hl)
end VJ
end
section
/-! contracts by worlds -/
abbrev CtP : Type := Option Value → Nat → (Nat → Nat) → (Nat → va_E) → Prop
def wd (z0 : Nat) (D : va_G) (cy : Nat → ClassId) (n : Nat) (ad : Nat → Nat) (g : Nat → va_E) (U : State) : Prop := z0 ≤ U.heap.size ∧ va_P D vwCl (wl n ad g) U.heap ∧ va_D (fun q => z0 ≤ q) (wl n ad g) ∧ va_K D vwCl (tysV cy) U ∧ xF z0 cy U
def QcR (z0 : Nat) (D : va_G) (P : CtP) : Array Value → State → Outcome → State → Prop := fun _ st o t => (∃ (r : Option Value) (n' : Nat) (ad' : Nat → Nat) (g' : Nat → va_E), o = .returned r ∧ P r n' ad' g' ∧ va_P D vwCl (wl n' ad' g') t.heap ∧ va_D (fun q => z0 ≤ q) (wl n' ad' g')) ∧ va_F (fun q => z0 ≤ q) st t
def CtG (l : Launch) (y : MethodName) (cc : ByteArray) (maxL : Nat) (ret : Option FieldType) (rm : Room) (z0 : Nat) (D : va_G) (cy : Nat → ClassId) (n : Nat) (ad : Nat → Nat) (g : Nat → va_E) (av : List Value) (P : CtP) (mc ms : Nat) : Prop :=
  Met l y (.code y cc maxL ret :: UW) rm (va_Pc av (wd z0 D cy n ad g)) (QcR z0 D P) mc ms (fun q => z0 ≤ q)
/-- the answer and the world behind it, told outright -/
abbrev isR (r : Option Value) (n : Nat) (ad : Nat → Nat) (g : Nat → va_E) : CtP := fun r' n' ad' g' => r' = r ∧ n' = n ∧ ad' = ad ∧ g' = g
abbrev Ct (l : Launch) (y : MethodName) (cc : ByteArray) (maxL : Nat) (ret : Option FieldType) (rm : Room) (z0 : Nat) (D : va_G) (cy : Nat → ClassId) (n : Nat) (ad : Nat → Nat) (g : Nat → va_E) (av : List Value) (r : Option Value) (g' : Nat → va_E) : Prop :=
  CtG l y cc maxL ret rm z0 D cy n ad g av (isR r n ad g') rm.cells rm.slots
theorem UW_good {y : MethodName} {cc : ByteArray} {maxL : Nat} {ret : Option FieldType} (h : Cond.code y cc maxL ret ∈ UW) : GoodIn UW (.code y cc maxL ret :: UW) := by
  intro w hw
  rcases List.mem_cons.mp hw with rfl | hw
  · exact ⟨h, good_of_word (List.mem_filter.mp h).2⟩
  · exact ⟨hw, good_of_word (List.mem_filter.mp hw).2⟩
theorem UW_goodL {ws : List Cond} (h : ∀ w ∈ ws, w ∈ UW) : GoodIn UW ws := fun w hw => ⟨h w hw, good_of_word (List.mem_filter.mp (h w hw)).2⟩
theorem wd.blind {z0 : Nat} {D : va_G} {cy : Nat → ClassId} {n : Nat} {ad : Nat → Nat} {g : Nat → va_E} {av : List Value} : FrameBlind (va_Pc av (wd z0 D cy n ad g)) := fun a U gg mk q => ⟨q.1, q.2.1, q.2.2.1, q.2.2.2.1, va_K.moved (u := U) (U := U.calling gg mk a) (Vm.Alike.refl U.vm) q.2.2.2.2.1, q.2.2.2.2.2.calling⟩
section CV
variable {p : Program} {l : Launch} {e : Env} {R : Room} {s : State} {m : MethodId} {args : Array Value} {below : List Frame} {meth : Method} {c : Code} {cells slots : Nat} {Q : State → Prop}
variable {cc : ByteArray} {own : String} {nL z0 n pc : Nat} {D : va_G} {cy : Nat → ClassId} {ad : Nat → Nat} {g : Nat → va_E} {L : List (Option Value)} {st : List Value}
variable {y : MethodName} {bytes : ByteArray} {maxL mc ms : Nat} {ret : Option FieldType} {rm : Room} {P : CtP}
theorem vCx.pre {av : List Value} {H : Heap} {locs : List Loc} (X : vCx p s m args c cc own nL z0 D cy) (hS : va_S (fun q => z0 ≤ q) s.heap H locs) (hP : va_P D vwCl (wl n ad g) H) (hD : va_D (fun q => z0 ≤ q) (wl n ad g)) : ∀ U : State, U.heap = H → s.WarmedH U.vm → va_Pc av (wd z0 D cy n ad g) av.toArray U := by
  intro U hU hW
  refine ⟨rfl, by rw [hU]; exact Nat.le_trans X.2.2.2.2.2.2.1 hS.1, by rw [hU]; exact hP, hD, va_K.moved hW.alike X.2.2.2.2.2.1, xF.next hW (fun a ha hna => ?_) X.2.2.2.2.2.2.2⟩
  rw [hU]
  exact hS.2.1 a ha hna
theorem ct_of {av : List Value} (hy : plainName y.cls = true) (k : Nat) (L : List (Option Value)) (hlen : (lg_sl av).length ≤ maxL) (hL : argsL av ++ List.replicate k none = L)
    (body : ∀ (p : Program) (e : Env) (s : State) (m : MethodId) (below : List Frame) (meth : Method) (c : Code), vCx p s m av.toArray c bytes y.cls maxL z0 D cy → meth.sig.returnType = ret → meth.locks = false → meth.name = y.name →
      vV p l e rm s m av.toArray below meth c maxL z0 D 0 0 (MQ below (QcR z0 D P) av.toArray s mc ms (fun q => z0 ≤ q)) n ad g 0 L []) : CtG l y bytes maxL ret rm z0 D cy n ad g av P mc ms := by
  refine Met.ofW (cc := bytes) (maxL := maxL) (ret := ret) hy rfl ?_
  intro p e s m args below meth c s₁ B hml hv
  obtain ⟨rfl, hz, hP, hD, hK, hF⟩ := hv
  have hts := atoms_spec (ws := .code y bytes maxL ret :: UW) B.pre
  have hown : s.vm.findClass y.cls = some m.cls := findClass_of_methodNamed B.named
  have hl := hasL_entry hlen hL
  rw [lg_entry_eq]
  exact body p e s m below meth c ⟨B.exec, B.bytes, hml, hown, fun w h => hts w (List.mem_cons_of_mem _ h), hK, hz, hF⟩ B.returns B.notSynchronized (name_of_methodNamed B.named B.method).1 s.heap [] _ va_S.rf hP hD hl
theorem v_iret (X : vCx p s m args c cc own nL z0 D cy) {x : Int32} (hr : meth.sig.returnType = some .int) (hlk : meth.locks = false) (d : decode cc pc = .ok (.ireturn, 1)) (hP : P (some (.int x)) n ad g) : vV p l e R s m args below meth c nL z0 D cells slots (MQ below (QcR z0 D P) args s cells slots (fun q => z0 ≤ q)) n ad g pc L [.int x] := fun H locs ls hS hPP hD hl =>
  W.iret X.1 X.2.1 hr (fun t ht hW => ⟨⟨_, n, ad, g, rfl, hP, by rw [ht]; exact hPP, hD⟩, hS.F ht⟩) hS.2.2 d hlk
theorem v_zret (X : vCx p s m args c cc own nL z0 D cy) {x : Int32} (hr : meth.sig.returnType = some .boolean) (hlk : meth.locks = false) (d : decode cc pc = .ok (.ireturn, 1)) (hx : narrow .boolean (.int x) = .int x) (hP : P (some (.int x)) n ad g) : vV p l e R s m args below meth c nL z0 D cells slots (MQ below (QcR z0 D P) args s cells slots (fun q => z0 ≤ q)) n ad g pc L [.int x] := fun H locs ls hS hPP hD hl =>
  W.zret X.1 X.2.1 hr hx (fun t ht hW => ⟨⟨_, n, ad, g, rfl, hP, by rw [ht]; exact hPP, hD⟩, hS.F ht⟩) hS.2.2 d hlk
theorem v_lret (X : vCx p s m args c cc own nL z0 D cy) {x : Int64} (hr : meth.sig.returnType = some .long) (hlk : meth.locks = false) (d : decode cc pc = .ok (.lreturn, 1)) (hP : P (some (.long x)) n ad g) : vV p l e R s m args below meth c nL z0 D cells slots (MQ below (QcR z0 D P) args s cells slots (fun q => z0 ≤ q)) n ad g pc L [.long x] := fun H locs ls hS hPP hD hl =>
  W.lret X.1 X.2.1 hr (fun t ht hW => ⟨⟨_, n, ad, g, rfl, hP, by rw [ht]; exact hPP, hD⟩, hS.F ht⟩) hS.2.2 d hlk
theorem v_dret (X : vCx p s m args c cc own nL z0 D cy) {x : UInt64} (hr : meth.sig.returnType = some .double) (hlk : meth.locks = false) (d : decode cc pc = .ok (.dreturn, 1)) (hP : P (some (.double x)) n ad g) : vV p l e R s m args below meth c nL z0 D cells slots (MQ below (QcR z0 D P) args s cells slots (fun q => z0 ≤ q)) n ad g pc L [.double x] := fun H locs ls hS hPP hD hl =>
  W.dret X.1 X.2.1 hr (fun t ht hW => ⟨⟨_, n, ad, g, rfl, hP, by rw [ht]; exact hPP, hD⟩, hS.F ht⟩) hS.2.2 d hlk
theorem v_vret (X : vCx p s m args c cc own nL z0 D cy) (hr : meth.sig.returnType = none) (hlk : meth.locks = false) (d : decode cc pc = .ok (.return_, 1)) (hP : P none n ad g) : vV p l e R s m args below meth c nL z0 D cells slots (MQ below (QcR z0 D P) args s cells slots (fun q => z0 ≤ q)) n ad g pc L [] := fun H locs ls hS hPP hD hl =>
  W.vret X.1 X.2.1 hr (fun t ht hW => ⟨⟨_, n, ad, g, rfl, hP, by rw [ht]; exact hPP, hD⟩, hS.F ht⟩) hS.2.2 d hlk
theorem v_aret (X : vCx p s m args c cc own nL z0 D cy) {a : Nat} {rt : FieldType} (hr : meth.sig.returnType = some rt) (hrt : (∃ n, rt = .object n) ∨ ∃ t, rt = .array t) (hlk : meth.locks = false) (d : decode cc pc = .ok (.areturn, 1)) (hP : P (some (.ref a)) n ad g) : vV p l e R s m args below meth c nL z0 D cells slots (MQ below (QcR z0 D P) args s cells slots (fun q => z0 ≤ q)) n ad g pc L [.ref a] := fun H locs ls hS hPP hD hl =>
  W.aret X.1 X.2.1 hr hrt (Or.inr ⟨a, rfl⟩) (fun t ht hW => ⟨⟨_, n, ad, g, rfl, hP, by rw [ht]; exact hPP, hD⟩, hS.F ht⟩) hS.2.2 d hlk
/-- behind a call -/
theorem v_ofRun {H : Heap} {locs : List Loc} {ls : Array Slot} {st0 : List Value} {a : Array Value} (hr : va_Run p l e R s m args below meth c H locs cells slots mc ms (F0 m pc ls st0) st (QcR z0 D P a) (fun q => z0 ≤ q)) (hS : va_S (fun q => z0 ≤ q) s.heap H locs) (hl : hasL ls nL L)
    (kk : ∀ (r : Option Value) (n' : Nat) (ad' : Nat → Nat) (g' : Nat → va_E), P r n' ad' g' → vV p l e R s m args below meth c nL z0 D (cells + mc) (slots + ms) Q n' ad' g' (pc + 3) L (r.toList ++ st)) : W p l e R s m args below meth c H locs cells slots Q (F0 m pc ls st0) := by
  intro T hT X
  obtain ⟨v, st₀, t, T', LL, h0, X', hL, e1, e2, ⟨⟨r, n', ad', g', hv, hp, hP1, hD1⟩, hz, hk⟩, hst⟩ := hr T hT X
  cases hv
  rw [h0] at hz hk
  rw [← e1] at hP1
  obtain ⟨t2, a1, b1⟩ := kk v n' ad' g' hp T'.heap (locs ++ LL) ls
    ⟨Nat.le_trans hS.1 (by rw [e1]; exact hz), fun q h1 h2 => by rw [e1, hk q (Nat.lt_of_lt_of_le h1 hS.1) h2]; exact hS.2.1 q h1 h2, fun q hq => by
      rcases List.mem_append.mp hq with h | h
      · exact hS.2.2 q h
      · exact hL q h⟩ hP1 hD1 hl T' rfl X'
  exact ⟨t2, hst t2 a1, b1⟩
theorem v_callV (X : vCx p s m args c cc own nL z0 D cy) {C : String} {T : u_T} {idx k ci N : Nat} {fs As st0 : List Value} (wm : Cond.methodLink own idx y ∈ UW) (wi : Cond.instanceMethod y ∈ UW) (wsl : Cond.selects C y y ∈ UW) (wz : Cond.initialized C ∈ UW) (wc : Cond.code y bytes maxL ret ∈ UW)
    (hd : y.cls = C ∧ y.cls ≠ "java/lang/invoke/MethodHandle" ∧ y.cls ≠ "java/lang/invoke/VarHandle" ∧ (parseMethodDescriptor y.desc).map (fun d => d.parameters.length) = some As.length) (hci : vwCl[ci]? = some (C, T, N))
    (d : decode cc pc = .ok (.invokevirtual idx, 3)) (hM : CtG l y bytes maxL ret rm z0 D cy n ad g (.ref (ad k) :: As) P mc ms) (hrecv : vAt n g k (.inr (ci, fs))) (hs : st0 = As.reverse ++ .ref (ad k) :: st) (hst : (st.map fun v => v.category).sum ≤ 8)
    (hR : rm.cells = mc ∧ rm.slots = ms ∧ rm.frames + 1 ≤ R.frames ∧ 8 + (maxL + 11) + rm.locals ≤ R.locals ∧ cells + mc ≤ R.cells ∧ slots + ms ≤ R.slots)
    (kk : ∀ (r : Option Value) (n' : Nat) (ad' : Nat → Nat) (g' : Nat → va_E), P r n' ad' g' → vV p l e R s m args below meth c nL z0 D (cells + mc) (slots + ms) Q n' ad' g' (pc + 3) L (r.toList ++ st)) : vV p l e R s m args below meth c nL z0 D cells slots Q n ad g pc L st0 := fun H locs ls hS hPP hD hl =>
  v_ofRun (va_runV (As := As) (rest := st) ⟨X.1, X.2.1, X.2.2.1, X.2.2.2.1, X.2.2.2.2.1⟩ hM (cwV As.length X.2.2.2.2.1 (UW_goodL (fun w hw => by
      rcases List.mem_append.mp hw with h | h
      · rcases List.mem_cons.mp h with rfl | h
        · exact wm
        rcases List.mem_cons.mp h with rfl | h
        · exact wi
        rcases List.mem_cons.mp h with rfl | h
        · exact wsl
        rcases List.mem_cons.mp h with rfl | h
        · exact wz
        cases h
      · rcases List.mem_cons.mp h with rfl | h
        · exact wc
        · exact h)) rfl hR.1 hR.2.1 hd ⟨hR.2.2.1, hR.2.2.2.1⟩) ⟨wd.blind, va_recv X.2.2.2.2.2.1 hPP hci (wl_at hrecv), X.pre hS hPP hD⟩ rfl rfl hl.1 hs (lv_room hst) d ⟨hR.2.2.2.2.1, hR.2.2.2.2.2⟩) hS hl kk
theorem v_callS (X : vCx p s m args c cc own nL z0 D cy) {idx : Nat} {As st0 : List Value} (wm : Cond.methodLink own idx y ∈ UW) (wt : Cond.static y ∈ UW) (wz : Cond.initialized y.cls ∈ UW) (wc : Cond.code y bytes maxL ret ∈ UW)
    (hd : y.cls ≠ "java/lang/invoke/MethodHandle" ∧ y.cls ≠ "java/lang/invoke/VarHandle" ∧ (parseMethodDescriptor y.desc).map (fun d => d.parameters.length) = some As.length)
    (d : decode cc pc = .ok (.invokestatic idx, 3)) (hM : CtG l y bytes maxL ret rm z0 D cy n ad g As P mc ms) (hs : st0 = As.reverse ++ st) (hst : (st.map fun v => v.category).sum ≤ 8)
    (hR : rm.cells = mc ∧ rm.slots = ms ∧ rm.frames + 1 ≤ R.frames ∧ 8 + (maxL + 11) + rm.locals ≤ R.locals ∧ cells + mc ≤ R.cells ∧ slots + ms ≤ R.slots)
    (kk : ∀ (r : Option Value) (n' : Nat) (ad' : Nat → Nat) (g' : Nat → va_E), P r n' ad' g' → vV p l e R s m args below meth c nL z0 D (cells + mc) (slots + ms) Q n' ad' g' (pc + 3) L (r.toList ++ st)) : vV p l e R s m args below meth c nL z0 D cells slots Q n ad g pc L st0 := fun H locs ls hS hPP hD hl =>
  v_ofRun (va_runS (As := As) (rest := st) ⟨X.1, X.2.1, X.2.2.1, X.2.2.2.1, X.2.2.2.2.1⟩ hM ⟨callB_of As.length X.2.2.2.2.1 (UW_good wc) rfl hR.1 hR.2.1 (X.2.2.2.2.1 _ wz) (X.2.2.2.2.1 _ wm) hd ⟨hR.2.2.1, hR.2.2.2.1⟩, X.2.2.2.2.1 _ wt⟩ ⟨wd.blind, X.pre hS hPP hD⟩ rfl rfl hl.1 hs (lv_room hst) d ⟨hR.2.2.2.2.1, hR.2.2.2.2.2⟩) hS hl kk
theorem v_callI (X : vCx p s m args c cc own nL z0 D cy) {idx k : Nat} {As st0 : List Value} (wm : Cond.methodLink own idx y ∈ UW) (wi : Cond.instanceMethod y ∈ UW) (wz : Cond.initialized y.cls ∈ UW) (wc : Cond.code y bytes maxL none ∈ UW) (hy1 : y.name = "<init>")
    (hd : y.cls ≠ "java/lang/invoke/MethodHandle" ∧ y.cls ≠ "java/lang/invoke/VarHandle" ∧ (parseMethodDescriptor y.desc).map (fun d => d.parameters.length) = some As.length)
    (d : decode cc pc = .ok (.invokespecial idx, 3)) (hM : CtG l y bytes maxL none rm z0 D cy n ad g (.ref (ad k) :: As) P mc ms) (hs : st0 = As.reverse ++ .ref (ad k) :: st) (hst : (st.map fun v => v.category).sum ≤ 8)
    (hR : rm.cells = mc ∧ rm.slots = ms ∧ rm.frames + 1 ≤ R.frames ∧ 8 + (maxL + 11) + rm.locals ≤ R.locals ∧ cells + mc ≤ R.cells ∧ slots + ms ≤ R.slots)
    (kk : ∀ (r : Option Value) (n' : Nat) (ad' : Nat → Nat) (g' : Nat → va_E), P r n' ad' g' → vV p l e R s m args below meth c nL z0 D (cells + mc) (slots + ms) Q n' ad' g' (pc + 3) L (r.toList ++ st)) : vV p l e R s m args below meth c nL z0 D cells slots Q n ad g pc L st0 := fun H locs ls hS hPP hD hl =>
  v_ofRun (va_runI (As := As) (rest := st) ⟨X.1, X.2.1, X.2.2.1, X.2.2.2.1, X.2.2.2.2.1⟩ hM (cwI As.length X.2.2.2.2.1 (UW_good wc) rfl hR.1 hR.2.1 (X.2.2.2.2.1 _ wz) (X.2.2.2.2.1 _ wm) (X.2.2.2.2.1 _ wi) hy1 hd ⟨hR.2.2.1, hR.2.2.2.1⟩) ⟨wd.blind, X.pre hS hPP hD⟩ rfl rfl hl.1 hs (lv_room hst) d ⟨hR.2.2.2.2.1, hR.2.2.2.2.2⟩) hS hl kk
theorem v_callIN (X : vCx p s m args c cc own nL z0 D cy) {idx k : Nat} {host : String} {As st0 : List Value} (wm : va_Nw (.methodLinkNest own idx y host) s) (wi : Cond.instanceMethod y ∈ UW) (wz : Cond.initialized y.cls ∈ UW) (wc : Cond.code y bytes maxL none ∈ UW) (hy1 : y.name = "<init>")
    (hd : y.cls ≠ "java/lang/invoke/MethodHandle" ∧ y.cls ≠ "java/lang/invoke/VarHandle" ∧ (parseMethodDescriptor y.desc).map (fun d => d.parameters.length) = some As.length)
    (d : decode cc pc = .ok (.invokespecial idx, 3)) (hM : CtG l y bytes maxL none rm z0 D cy n ad g (.ref (ad k) :: As) P mc ms) (hs : st0 = As.reverse ++ .ref (ad k) :: st) (hst : (st.map fun v => v.category).sum ≤ 8)
    (hR : rm.cells = mc ∧ rm.slots = ms ∧ rm.frames + 1 ≤ R.frames ∧ 8 + (maxL + 11) + rm.locals ≤ R.locals ∧ cells + mc ≤ R.cells ∧ slots + ms ≤ R.slots)
    (kk : ∀ (r : Option Value) (n' : Nat) (ad' : Nat → Nat) (g' : Nat → va_E), P r n' ad' g' → vV p l e R s m args below meth c nL z0 D (cells + mc) (slots + ms) Q n' ad' g' (pc + 3) L (r.toList ++ st)) : vV p l e R s m args below meth c nL z0 D cells slots Q n ad g pc L st0 := fun H locs ls hS hPP hD hl =>
  v_ofRun (va_runIN (As := As) (rest := st) ⟨X.1, X.2.1, X.2.2.1, X.2.2.2.1, X.2.2.2.2.1⟩ hM ⟨va_cnB As.length X.2.2.2.2.1 (UW_good wc) rfl hR.1 hR.2.1 wm (X.2.2.2.2.1 _ wz) hd ⟨hR.2.2.1, hR.2.2.2.1⟩, hy1, X.2.2.2.2.1 _ wi⟩ ⟨wd.blind, X.pre hS hPP hD⟩ rfl rfl hl.1 hs (lv_room hst) d ⟨hR.2.2.2.2.1, hR.2.2.2.2.2⟩) hS hl kk
end CV
end
section
/-! rooms without new cells; contracts that tell answer and world outright -/
abbrev rmv (f lo : Nat) : Room := { frames := f, cells := 0, slots := 0, locals := lo }
abbrev Ct0 (l : Launch) (y : MethodName) (cc : ByteArray) (maxL : Nat) (ret : Option FieldType) (f lo z0 : Nat) (D : va_G) (cy : Nat → ClassId) (n : Nat) (ad : Nat → Nat) (g : Nat → va_E) (av : List Value) (r : Option Value) (g' : Nat → va_E) : Prop := CtG l y cc maxL ret (rmv f lo) z0 D cy n ad g av (isR r n ad g') 0 0
section SP
variable {p : Program} {l : Launch} {e : Env} {R : Room} {s : State} {m : MethodId} {args : Array Value} {below : List Frame} {meth : Method} {c : Code} {cells slots : Nat} {Q : State → Prop}
variable {cc : ByteArray} {nL z0 n pc k : Nat} {D : va_G} {cy : Nat → ClassId} {ad : Nat → Nat} {g : Nat → va_E} {L : List (Option Value)} {st : List Value}
theorem gf_X3_9 (X : vCx p s m args c cc RX3 nL z0 D cy) {v0 v1 : Value} (d : decode cc pc = .ok (.getfield 9, 3)) (hg : vAt n g k (.inr (3, [v0, v1]))) (kk : vV p l e R s m args below meth c nL z0 D cells slots Q n ad g (pc + 3) L (v0 :: st)) : vV p l e R s m args below meth c nL z0 D cells slots Q n ad g pc L (.ref (ad k) :: st) := v_get (fi := 0) X d inU_X3 wf_X3_9 rfl (by decide) rfl hg rfl kk
theorem pf_X3_9 (X : vCx p s m args c cc RX3 nL z0 D cy) (hini : meth.name = "<init>") {v0 v1 : Value} {x : Nat} (d : decode cc pc = .ok (.putfield 9, 3)) (hg : vAt n g k (.inr (3, [v0, v1]))) (kk : vV p l e R s m args below meth c nL z0 D cells slots Q n ad (va_up g k (.inr (3, [.ref x, v1]))) (pc + 3) L st) : vV p l e R s m args below meth c nL z0 D cells slots Q n ad g pc L (.ref x :: .ref (ad k) :: st) := v_putF (fi := 0) (ty := (.array .int)) X d inU_X3 wf_X3_9 tyX3_ok nmX3 rfl (by decide) rfl rfl hini rfl (by decide +kernel) hg rfl rfl (Nat.le_of_ble_eq_true rfl) kk
theorem gf_X3_13 (X : vCx p s m args c cc RX3 nL z0 D cy) {v0 v1 : Value} (d : decode cc pc = .ok (.getfield 13, 3)) (hg : vAt n g k (.inr (3, [v0, v1]))) (kk : vV p l e R s m args below meth c nL z0 D cells slots Q n ad g (pc + 3) L (v1 :: st)) : vV p l e R s m args below meth c nL z0 D cells slots Q n ad g pc L (.ref (ad k) :: st) := v_get (fi := 1) X d inU_X3 wf_X3_13 rfl (by decide) rfl hg rfl kk
theorem pf_X3_13 (X : vCx p s m args c cc RX3 nL z0 D cy) (hini : meth.name = "<init>") {v0 v1 : Value} {x : Nat} (d : decode cc pc = .ok (.putfield 13, 3)) (hg : vAt n g k (.inr (3, [v0, v1]))) (kk : vV p l e R s m args below meth c nL z0 D cells slots Q n ad (va_up g k (.inr (3, [v0, .ref x]))) (pc + 3) L st) : vV p l e R s m args below meth c nL z0 D cells slots Q n ad g pc L (.ref x :: .ref (ad k) :: st) := v_putF (fi := 1) (ty := (.array .int)) X d inU_X3 wf_X3_13 tyX3_ok nmX3 rfl (by decide) rfl rfl hini rfl (by decide +kernel) hg rfl rfl (Nat.le_of_ble_eq_true rfl) kk
theorem gf_X0_15 (X : vCx p s m args c cc RX0 nL z0 D cy) {v0 v1 v2 v3 v4 v5 v6 v7 v8 v9 : Value} (d : decode cc pc = .ok (.getfield 15, 3)) (hg : vAt n g k (.inr (0, [v0, v1, v2, v3, v4, v5, v6, v7, v8, v9]))) (kk : vV p l e R s m args below meth c nL z0 D cells slots Q n ad g (pc + 3) L (v0 :: st)) : vV p l e R s m args below meth c nL z0 D cells slots Q n ad g pc L (.ref (ad k) :: st) := v_get (fi := 0) X d inU_X0 wf_X0_15 rfl (by decide) rfl hg rfl kk
theorem pf_X0_15 (X : vCx p s m args c cc RX0 nL z0 D cy) {v0 v1 v2 v3 v4 v5 v6 v7 v8 v9 : Value} {x : Int32} (d : decode cc pc = .ok (.putfield 15, 3)) (hg : vAt n g k (.inr (0, [v0, v1, v2, v3, v4, v5, v6, v7, v8, v9]))) (kk : vV p l e R s m args below meth c nL z0 D cells slots Q n ad (va_up g k (.inr (0, [.int x, v1, v2, v3, v4, v5, v6, v7, v8, v9]))) (pc + 3) L st) : vV p l e R s m args below meth c nL z0 D cells slots Q n ad g pc L (.int x :: .ref (ad k) :: st) := v_put (fi := 0) (ty := .int) X d inU_X0 wf_X0_15 tyX0_ok nmX0 rfl (by decide) rfl rfl (by decide +kernel) hg rfl rfl (Nat.le_of_ble_eq_true rfl) kk
theorem gf_X2_58 (X : vCx p s m args c cc RX2 nL z0 D cy) {v0 v1 v2 v3 v4 v5 v6 v7 v8 v9 : Value} (d : decode cc pc = .ok (.getfield 58, 3)) (hg : vAt n g k (.inr (0, [v0, v1, v2, v3, v4, v5, v6, v7, v8, v9]))) (kk : vV p l e R s m args below meth c nL z0 D cells slots Q n ad g (pc + 3) L (v0 :: st)) : vV p l e R s m args below meth c nL z0 D cells slots Q n ad g pc L (.ref (ad k) :: st) := v_get (fi := 0) X d inU_X0 wf_X2_58 rfl (by decide) rfl hg rfl kk
theorem pf_X2_58 (X : vCx p s m args c cc RX2 nL z0 D cy) {v0 v1 v2 v3 v4 v5 v6 v7 v8 v9 : Value} {x : Int32} (d : decode cc pc = .ok (.putfield 58, 3)) (hg : vAt n g k (.inr (0, [v0, v1, v2, v3, v4, v5, v6, v7, v8, v9]))) (kk : vV p l e R s m args below meth c nL z0 D cells slots Q n ad (va_up g k (.inr (0, [.int x, v1, v2, v3, v4, v5, v6, v7, v8, v9]))) (pc + 3) L st) : vV p l e R s m args below meth c nL z0 D cells slots Q n ad g pc L (.int x :: .ref (ad k) :: st) := v_put (fi := 0) (ty := .int) X d inU_X0 wf_X2_58 tyX0_ok nmX0 rfl (by decide) rfl rfl (by decide +kernel) hg rfl rfl (Nat.le_of_ble_eq_true rfl) kk
theorem gf_X0_18 (X : vCx p s m args c cc RX0 nL z0 D cy) {v0 v1 v2 v3 v4 v5 v6 v7 v8 v9 : Value} (d : decode cc pc = .ok (.getfield 18, 3)) (hg : vAt n g k (.inr (0, [v0, v1, v2, v3, v4, v5, v6, v7, v8, v9]))) (kk : vV p l e R s m args below meth c nL z0 D cells slots Q n ad g (pc + 3) L (v1 :: st)) : vV p l e R s m args below meth c nL z0 D cells slots Q n ad g pc L (.ref (ad k) :: st) := v_get (fi := 1) X d inU_X0 wf_X0_18 rfl (by decide) rfl hg rfl kk
theorem pf_X0_18 (X : vCx p s m args c cc RX0 nL z0 D cy) {v0 v1 v2 v3 v4 v5 v6 v7 v8 v9 : Value} {x : Int32} (d : decode cc pc = .ok (.putfield 18, 3)) (hg : vAt n g k (.inr (0, [v0, v1, v2, v3, v4, v5, v6, v7, v8, v9]))) (kk : vV p l e R s m args below meth c nL z0 D cells slots Q n ad (va_up g k (.inr (0, [v0, .int x, v2, v3, v4, v5, v6, v7, v8, v9]))) (pc + 3) L st) : vV p l e R s m args below meth c nL z0 D cells slots Q n ad g pc L (.int x :: .ref (ad k) :: st) := v_put (fi := 1) (ty := .int) X d inU_X0 wf_X0_18 tyX0_ok nmX0 rfl (by decide) rfl rfl (by decide +kernel) hg rfl rfl (Nat.le_of_ble_eq_true rfl) kk
theorem gf_X1_29 (X : vCx p s m args c cc RX1 nL z0 D cy) {v0 v1 v2 v3 v4 v5 v6 v7 v8 v9 : Value} (d : decode cc pc = .ok (.getfield 29, 3)) (hg : vAt n g k (.inr (0, [v0, v1, v2, v3, v4, v5, v6, v7, v8, v9]))) (kk : vV p l e R s m args below meth c nL z0 D cells slots Q n ad g (pc + 3) L (v1 :: st)) : vV p l e R s m args below meth c nL z0 D cells slots Q n ad g pc L (.ref (ad k) :: st) := v_get (fi := 1) X d inU_X0 wf_X1_29 rfl (by decide) rfl hg rfl kk
theorem pf_X1_29 (X : vCx p s m args c cc RX1 nL z0 D cy) {v0 v1 v2 v3 v4 v5 v6 v7 v8 v9 : Value} {x : Int32} (d : decode cc pc = .ok (.putfield 29, 3)) (hg : vAt n g k (.inr (0, [v0, v1, v2, v3, v4, v5, v6, v7, v8, v9]))) (kk : vV p l e R s m args below meth c nL z0 D cells slots Q n ad (va_up g k (.inr (0, [v0, .int x, v2, v3, v4, v5, v6, v7, v8, v9]))) (pc + 3) L st) : vV p l e R s m args below meth c nL z0 D cells slots Q n ad g pc L (.int x :: .ref (ad k) :: st) := v_put (fi := 1) (ty := .int) X d inU_X0 wf_X1_29 tyX0_ok nmX0 rfl (by decide) rfl rfl (by decide +kernel) hg rfl rfl (Nat.le_of_ble_eq_true rfl) kk
theorem gf_X2_61 (X : vCx p s m args c cc RX2 nL z0 D cy) {v0 v1 v2 v3 v4 v5 v6 v7 v8 v9 : Value} (d : decode cc pc = .ok (.getfield 61, 3)) (hg : vAt n g k (.inr (0, [v0, v1, v2, v3, v4, v5, v6, v7, v8, v9]))) (kk : vV p l e R s m args below meth c nL z0 D cells slots Q n ad g (pc + 3) L (v1 :: st)) : vV p l e R s m args below meth c nL z0 D cells slots Q n ad g pc L (.ref (ad k) :: st) := v_get (fi := 1) X d inU_X0 wf_X2_61 rfl (by decide) rfl hg rfl kk
theorem pf_X2_61 (X : vCx p s m args c cc RX2 nL z0 D cy) {v0 v1 v2 v3 v4 v5 v6 v7 v8 v9 : Value} {x : Int32} (d : decode cc pc = .ok (.putfield 61, 3)) (hg : vAt n g k (.inr (0, [v0, v1, v2, v3, v4, v5, v6, v7, v8, v9]))) (kk : vV p l e R s m args below meth c nL z0 D cells slots Q n ad (va_up g k (.inr (0, [v0, .int x, v2, v3, v4, v5, v6, v7, v8, v9]))) (pc + 3) L st) : vV p l e R s m args below meth c nL z0 D cells slots Q n ad g pc L (.int x :: .ref (ad k) :: st) := v_put (fi := 1) (ty := .int) X d inU_X0 wf_X2_61 tyX0_ok nmX0 rfl (by decide) rfl rfl (by decide +kernel) hg rfl rfl (Nat.le_of_ble_eq_true rfl) kk
theorem gf_X0_21 (X : vCx p s m args c cc RX0 nL z0 D cy) {v0 v1 v2 v3 v4 v5 v6 v7 v8 v9 : Value} (d : decode cc pc = .ok (.getfield 21, 3)) (hg : vAt n g k (.inr (0, [v0, v1, v2, v3, v4, v5, v6, v7, v8, v9]))) (kk : vV p l e R s m args below meth c nL z0 D cells slots Q n ad g (pc + 3) L (v2 :: st)) : vV p l e R s m args below meth c nL z0 D cells slots Q n ad g pc L (.ref (ad k) :: st) := v_get (fi := 2) X d inU_X0 wf_X0_21 rfl (by decide) rfl hg rfl kk
theorem pf_X0_21 (X : vCx p s m args c cc RX0 nL z0 D cy) {v0 v1 v2 v3 v4 v5 v6 v7 v8 v9 : Value} {x : Int32} (d : decode cc pc = .ok (.putfield 21, 3)) (hg : vAt n g k (.inr (0, [v0, v1, v2, v3, v4, v5, v6, v7, v8, v9]))) (kk : vV p l e R s m args below meth c nL z0 D cells slots Q n ad (va_up g k (.inr (0, [v0, v1, .int x, v3, v4, v5, v6, v7, v8, v9]))) (pc + 3) L st) : vV p l e R s m args below meth c nL z0 D cells slots Q n ad g pc L (.int x :: .ref (ad k) :: st) := v_put (fi := 2) (ty := .int) X d inU_X0 wf_X0_21 tyX0_ok nmX0 rfl (by decide) rfl rfl (by decide +kernel) hg rfl rfl (Nat.le_of_ble_eq_true rfl) kk
theorem gf_X1_34 (X : vCx p s m args c cc RX1 nL z0 D cy) {v0 v1 v2 v3 v4 v5 v6 v7 v8 v9 : Value} (d : decode cc pc = .ok (.getfield 34, 3)) (hg : vAt n g k (.inr (0, [v0, v1, v2, v3, v4, v5, v6, v7, v8, v9]))) (kk : vV p l e R s m args below meth c nL z0 D cells slots Q n ad g (pc + 3) L (v2 :: st)) : vV p l e R s m args below meth c nL z0 D cells slots Q n ad g pc L (.ref (ad k) :: st) := v_get (fi := 2) X d inU_X0 wf_X1_34 rfl (by decide) rfl hg rfl kk
theorem pf_X1_34 (X : vCx p s m args c cc RX1 nL z0 D cy) {v0 v1 v2 v3 v4 v5 v6 v7 v8 v9 : Value} {x : Int32} (d : decode cc pc = .ok (.putfield 34, 3)) (hg : vAt n g k (.inr (0, [v0, v1, v2, v3, v4, v5, v6, v7, v8, v9]))) (kk : vV p l e R s m args below meth c nL z0 D cells slots Q n ad (va_up g k (.inr (0, [v0, v1, .int x, v3, v4, v5, v6, v7, v8, v9]))) (pc + 3) L st) : vV p l e R s m args below meth c nL z0 D cells slots Q n ad g pc L (.int x :: .ref (ad k) :: st) := v_put (fi := 2) (ty := .int) X d inU_X0 wf_X1_34 tyX0_ok nmX0 rfl (by decide) rfl rfl (by decide +kernel) hg rfl rfl (Nat.le_of_ble_eq_true rfl) kk
theorem gf_X2_151 (X : vCx p s m args c cc RX2 nL z0 D cy) {v0 v1 v2 v3 v4 v5 v6 v7 v8 v9 : Value} (d : decode cc pc = .ok (.getfield 151, 3)) (hg : vAt n g k (.inr (0, [v0, v1, v2, v3, v4, v5, v6, v7, v8, v9]))) (kk : vV p l e R s m args below meth c nL z0 D cells slots Q n ad g (pc + 3) L (v2 :: st)) : vV p l e R s m args below meth c nL z0 D cells slots Q n ad g pc L (.ref (ad k) :: st) := v_get (fi := 2) X d inU_X0 wf_X2_151 rfl (by decide) rfl hg rfl kk
theorem pf_X2_151 (X : vCx p s m args c cc RX2 nL z0 D cy) {v0 v1 v2 v3 v4 v5 v6 v7 v8 v9 : Value} {x : Int32} (d : decode cc pc = .ok (.putfield 151, 3)) (hg : vAt n g k (.inr (0, [v0, v1, v2, v3, v4, v5, v6, v7, v8, v9]))) (kk : vV p l e R s m args below meth c nL z0 D cells slots Q n ad (va_up g k (.inr (0, [v0, v1, .int x, v3, v4, v5, v6, v7, v8, v9]))) (pc + 3) L st) : vV p l e R s m args below meth c nL z0 D cells slots Q n ad g pc L (.int x :: .ref (ad k) :: st) := v_put (fi := 2) (ty := .int) X d inU_X0 wf_X2_151 tyX0_ok nmX0 rfl (by decide) rfl rfl (by decide +kernel) hg rfl rfl (Nat.le_of_ble_eq_true rfl) kk
theorem gf_X0_24 (X : vCx p s m args c cc RX0 nL z0 D cy) {v0 v1 v2 v3 v4 v5 v6 v7 v8 v9 : Value} (d : decode cc pc = .ok (.getfield 24, 3)) (hg : vAt n g k (.inr (0, [v0, v1, v2, v3, v4, v5, v6, v7, v8, v9]))) (kk : vV p l e R s m args below meth c nL z0 D cells slots Q n ad g (pc + 3) L (v3 :: st)) : vV p l e R s m args below meth c nL z0 D cells slots Q n ad g pc L (.ref (ad k) :: st) := v_get (fi := 3) X d inU_X0 wf_X0_24 rfl (by decide) rfl hg rfl kk
theorem pf_X0_24 (X : vCx p s m args c cc RX0 nL z0 D cy) {v0 v1 v2 v3 v4 v5 v6 v7 v8 v9 : Value} {x : Int32} (d : decode cc pc = .ok (.putfield 24, 3)) (hg : vAt n g k (.inr (0, [v0, v1, v2, v3, v4, v5, v6, v7, v8, v9]))) (kk : vV p l e R s m args below meth c nL z0 D cells slots Q n ad (va_up g k (.inr (0, [v0, v1, v2, .int x, v4, v5, v6, v7, v8, v9]))) (pc + 3) L st) : vV p l e R s m args below meth c nL z0 D cells slots Q n ad g pc L (.int x :: .ref (ad k) :: st) := v_put (fi := 3) (ty := .int) X d inU_X0 wf_X0_24 tyX0_ok nmX0 rfl (by decide) rfl rfl (by decide +kernel) hg rfl rfl (Nat.le_of_ble_eq_true rfl) kk
theorem gf_X2_64 (X : vCx p s m args c cc RX2 nL z0 D cy) {v0 v1 v2 v3 v4 v5 v6 v7 v8 v9 : Value} (d : decode cc pc = .ok (.getfield 64, 3)) (hg : vAt n g k (.inr (0, [v0, v1, v2, v3, v4, v5, v6, v7, v8, v9]))) (kk : vV p l e R s m args below meth c nL z0 D cells slots Q n ad g (pc + 3) L (v3 :: st)) : vV p l e R s m args below meth c nL z0 D cells slots Q n ad g pc L (.ref (ad k) :: st) := v_get (fi := 3) X d inU_X0 wf_X2_64 rfl (by decide) rfl hg rfl kk
theorem pf_X2_64 (X : vCx p s m args c cc RX2 nL z0 D cy) {v0 v1 v2 v3 v4 v5 v6 v7 v8 v9 : Value} {x : Int32} (d : decode cc pc = .ok (.putfield 64, 3)) (hg : vAt n g k (.inr (0, [v0, v1, v2, v3, v4, v5, v6, v7, v8, v9]))) (kk : vV p l e R s m args below meth c nL z0 D cells slots Q n ad (va_up g k (.inr (0, [v0, v1, v2, .int x, v4, v5, v6, v7, v8, v9]))) (pc + 3) L st) : vV p l e R s m args below meth c nL z0 D cells slots Q n ad g pc L (.int x :: .ref (ad k) :: st) := v_put (fi := 3) (ty := .int) X d inU_X0 wf_X2_64 tyX0_ok nmX0 rfl (by decide) rfl rfl (by decide +kernel) hg rfl rfl (Nat.le_of_ble_eq_true rfl) kk
theorem gf_X4_112 (X : vCx p s m args c cc RX4 nL z0 D cy) {v0 v1 v2 v3 v4 v5 v6 v7 v8 v9 : Value} (d : decode cc pc = .ok (.getfield 112, 3)) (hg : vAt n g k (.inr (0, [v0, v1, v2, v3, v4, v5, v6, v7, v8, v9]))) (kk : vV p l e R s m args below meth c nL z0 D cells slots Q n ad g (pc + 3) L (v3 :: st)) : vV p l e R s m args below meth c nL z0 D cells slots Q n ad g pc L (.ref (ad k) :: st) := v_get (fi := 3) X d inU_X0 wf_X4_112 rfl (by decide) rfl hg rfl kk
theorem pf_X4_112 (X : vCx p s m args c cc RX4 nL z0 D cy) {v0 v1 v2 v3 v4 v5 v6 v7 v8 v9 : Value} {x : Int32} (d : decode cc pc = .ok (.putfield 112, 3)) (hg : vAt n g k (.inr (0, [v0, v1, v2, v3, v4, v5, v6, v7, v8, v9]))) (kk : vV p l e R s m args below meth c nL z0 D cells slots Q n ad (va_up g k (.inr (0, [v0, v1, v2, .int x, v4, v5, v6, v7, v8, v9]))) (pc + 3) L st) : vV p l e R s m args below meth c nL z0 D cells slots Q n ad g pc L (.int x :: .ref (ad k) :: st) := v_put (fi := 3) (ty := .int) X d inU_X0 wf_X4_112 tyX0_ok nmX0 rfl (by decide) rfl rfl (by decide +kernel) hg rfl rfl (Nat.le_of_ble_eq_true rfl) kk
theorem gf_X0_27 (X : vCx p s m args c cc RX0 nL z0 D cy) {v0 v1 v2 v3 v4 v5 v6 v7 v8 v9 : Value} (d : decode cc pc = .ok (.getfield 27, 3)) (hg : vAt n g k (.inr (0, [v0, v1, v2, v3, v4, v5, v6, v7, v8, v9]))) (kk : vV p l e R s m args below meth c nL z0 D cells slots Q n ad g (pc + 3) L (v4 :: st)) : vV p l e R s m args below meth c nL z0 D cells slots Q n ad g pc L (.ref (ad k) :: st) := v_get (fi := 4) X d inU_X0 wf_X0_27 rfl (by decide) rfl hg rfl kk
theorem pf_X0_27 (X : vCx p s m args c cc RX0 nL z0 D cy) {v0 v1 v2 v3 v4 v5 v6 v7 v8 v9 : Value} {x : Int32} (d : decode cc pc = .ok (.putfield 27, 3)) (hg : vAt n g k (.inr (0, [v0, v1, v2, v3, v4, v5, v6, v7, v8, v9]))) (kk : vV p l e R s m args below meth c nL z0 D cells slots Q n ad (va_up g k (.inr (0, [v0, v1, v2, v3, .int x, v5, v6, v7, v8, v9]))) (pc + 3) L st) : vV p l e R s m args below meth c nL z0 D cells slots Q n ad g pc L (.int x :: .ref (ad k) :: st) := v_put (fi := 4) (ty := .int) X d inU_X0 wf_X0_27 tyX0_ok nmX0 rfl (by decide) rfl rfl (by decide +kernel) hg rfl rfl (Nat.le_of_ble_eq_true rfl) kk
theorem gf_X2_67 (X : vCx p s m args c cc RX2 nL z0 D cy) {v0 v1 v2 v3 v4 v5 v6 v7 v8 v9 : Value} (d : decode cc pc = .ok (.getfield 67, 3)) (hg : vAt n g k (.inr (0, [v0, v1, v2, v3, v4, v5, v6, v7, v8, v9]))) (kk : vV p l e R s m args below meth c nL z0 D cells slots Q n ad g (pc + 3) L (v4 :: st)) : vV p l e R s m args below meth c nL z0 D cells slots Q n ad g pc L (.ref (ad k) :: st) := v_get (fi := 4) X d inU_X0 wf_X2_67 rfl (by decide) rfl hg rfl kk
theorem pf_X2_67 (X : vCx p s m args c cc RX2 nL z0 D cy) {v0 v1 v2 v3 v4 v5 v6 v7 v8 v9 : Value} {x : Int32} (d : decode cc pc = .ok (.putfield 67, 3)) (hg : vAt n g k (.inr (0, [v0, v1, v2, v3, v4, v5, v6, v7, v8, v9]))) (kk : vV p l e R s m args below meth c nL z0 D cells slots Q n ad (va_up g k (.inr (0, [v0, v1, v2, v3, .int x, v5, v6, v7, v8, v9]))) (pc + 3) L st) : vV p l e R s m args below meth c nL z0 D cells slots Q n ad g pc L (.int x :: .ref (ad k) :: st) := v_put (fi := 4) (ty := .int) X d inU_X0 wf_X2_67 tyX0_ok nmX0 rfl (by decide) rfl rfl (by decide +kernel) hg rfl rfl (Nat.le_of_ble_eq_true rfl) kk
theorem gf_X0_30 (X : vCx p s m args c cc RX0 nL z0 D cy) {v0 v1 v2 v3 v4 v5 v6 v7 v8 v9 : Value} (d : decode cc pc = .ok (.getfield 30, 3)) (hg : vAt n g k (.inr (0, [v0, v1, v2, v3, v4, v5, v6, v7, v8, v9]))) (kk : vV p l e R s m args below meth c nL z0 D cells slots Q n ad g (pc + 3) L (v5 :: st)) : vV p l e R s m args below meth c nL z0 D cells slots Q n ad g pc L (.ref (ad k) :: st) := v_get (fi := 5) X d inU_X0 wf_X0_30 rfl (by decide) rfl hg rfl kk
theorem pf_X0_30 (X : vCx p s m args c cc RX0 nL z0 D cy) {v0 v1 v2 v3 v4 v5 v6 v7 v8 v9 : Value} {x : Int32} (d : decode cc pc = .ok (.putfield 30, 3)) (hg : vAt n g k (.inr (0, [v0, v1, v2, v3, v4, v5, v6, v7, v8, v9]))) (kk : vV p l e R s m args below meth c nL z0 D cells slots Q n ad (va_up g k (.inr (0, [v0, v1, v2, v3, v4, .int x, v6, v7, v8, v9]))) (pc + 3) L st) : vV p l e R s m args below meth c nL z0 D cells slots Q n ad g pc L (.int x :: .ref (ad k) :: st) := v_put (fi := 5) (ty := .int) X d inU_X0 wf_X0_30 tyX0_ok nmX0 rfl (by decide) rfl rfl (by decide +kernel) hg rfl rfl (Nat.le_of_ble_eq_true rfl) kk
theorem gf_X4_102 (X : vCx p s m args c cc RX4 nL z0 D cy) {v0 v1 v2 v3 v4 v5 v6 v7 v8 v9 : Value} (d : decode cc pc = .ok (.getfield 102, 3)) (hg : vAt n g k (.inr (0, [v0, v1, v2, v3, v4, v5, v6, v7, v8, v9]))) (kk : vV p l e R s m args below meth c nL z0 D cells slots Q n ad g (pc + 3) L (v5 :: st)) : vV p l e R s m args below meth c nL z0 D cells slots Q n ad g pc L (.ref (ad k) :: st) := v_get (fi := 5) X d inU_X0 wf_X4_102 rfl (by decide) rfl hg rfl kk
theorem pf_X4_102 (X : vCx p s m args c cc RX4 nL z0 D cy) {v0 v1 v2 v3 v4 v5 v6 v7 v8 v9 : Value} {x : Int32} (d : decode cc pc = .ok (.putfield 102, 3)) (hg : vAt n g k (.inr (0, [v0, v1, v2, v3, v4, v5, v6, v7, v8, v9]))) (kk : vV p l e R s m args below meth c nL z0 D cells slots Q n ad (va_up g k (.inr (0, [v0, v1, v2, v3, v4, .int x, v6, v7, v8, v9]))) (pc + 3) L st) : vV p l e R s m args below meth c nL z0 D cells slots Q n ad g pc L (.int x :: .ref (ad k) :: st) := v_put (fi := 5) (ty := .int) X d inU_X0 wf_X4_102 tyX0_ok nmX0 rfl (by decide) rfl rfl (by decide +kernel) hg rfl rfl (Nat.le_of_ble_eq_true rfl) kk
theorem gf_X0_9 (X : vCx p s m args c cc RX0 nL z0 D cy) {v0 v1 v2 v3 v4 v5 v6 v7 v8 v9 : Value} (d : decode cc pc = .ok (.getfield 9, 3)) (hg : vAt n g k (.inr (0, [v0, v1, v2, v3, v4, v5, v6, v7, v8, v9]))) (kk : vV p l e R s m args below meth c nL z0 D cells slots Q n ad g (pc + 3) L (v6 :: st)) : vV p l e R s m args below meth c nL z0 D cells slots Q n ad g pc L (.ref (ad k) :: st) := v_get (fi := 6) X d inU_X0 wf_X0_9 rfl (by decide) rfl hg rfl kk
theorem pf_X0_9 (X : vCx p s m args c cc RX0 nL z0 D cy) {v0 v1 v2 v3 v4 v5 v6 v7 v8 v9 : Value} {x : Int32} (d : decode cc pc = .ok (.putfield 9, 3)) (hg : vAt n g k (.inr (0, [v0, v1, v2, v3, v4, v5, v6, v7, v8, v9]))) (kk : vV p l e R s m args below meth c nL z0 D cells slots Q n ad (va_up g k (.inr (0, [v0, v1, v2, v3, v4, v5, .int x, v7, v8, v9]))) (pc + 3) L st) : vV p l e R s m args below meth c nL z0 D cells slots Q n ad g pc L (.int x :: .ref (ad k) :: st) := v_put (fi := 6) (ty := .int) X d inU_X0 wf_X0_9 tyX0_ok nmX0 rfl (by decide) rfl rfl (by decide +kernel) hg rfl rfl (Nat.le_of_ble_eq_true rfl) kk
theorem gf_X4_74 (X : vCx p s m args c cc RX4 nL z0 D cy) {v0 v1 v2 v3 v4 v5 v6 v7 v8 v9 : Value} (d : decode cc pc = .ok (.getfield 74, 3)) (hg : vAt n g k (.inr (0, [v0, v1, v2, v3, v4, v5, v6, v7, v8, v9]))) (kk : vV p l e R s m args below meth c nL z0 D cells slots Q n ad g (pc + 3) L (v6 :: st)) : vV p l e R s m args below meth c nL z0 D cells slots Q n ad g pc L (.ref (ad k) :: st) := v_get (fi := 6) X d inU_X0 wf_X4_74 rfl (by decide) rfl hg rfl kk
theorem pf_X4_74 (X : vCx p s m args c cc RX4 nL z0 D cy) {v0 v1 v2 v3 v4 v5 v6 v7 v8 v9 : Value} {x : Int32} (d : decode cc pc = .ok (.putfield 74, 3)) (hg : vAt n g k (.inr (0, [v0, v1, v2, v3, v4, v5, v6, v7, v8, v9]))) (kk : vV p l e R s m args below meth c nL z0 D cells slots Q n ad (va_up g k (.inr (0, [v0, v1, v2, v3, v4, v5, .int x, v7, v8, v9]))) (pc + 3) L st) : vV p l e R s m args below meth c nL z0 D cells slots Q n ad g pc L (.int x :: .ref (ad k) :: st) := v_put (fi := 6) (ty := .int) X d inU_X0 wf_X4_74 tyX0_ok nmX0 rfl (by decide) rfl rfl (by decide +kernel) hg rfl rfl (Nat.le_of_ble_eq_true rfl) kk
theorem gf_X2_87 (X : vCx p s m args c cc RX2 nL z0 D cy) {v0 v1 v2 v3 v4 v5 v6 v7 v8 v9 : Value} (d : decode cc pc = .ok (.getfield 87, 3)) (hg : vAt n g k (.inr (0, [v0, v1, v2, v3, v4, v5, v6, v7, v8, v9]))) (kk : vV p l e R s m args below meth c nL z0 D cells slots Q n ad g (pc + 3) L (v6 :: st)) : vV p l e R s m args below meth c nL z0 D cells slots Q n ad g pc L (.ref (ad k) :: st) := v_get (fi := 6) X d inU_X0 wf_X2_87 rfl (by decide) rfl hg rfl kk
theorem pf_X2_87 (X : vCx p s m args c cc RX2 nL z0 D cy) {v0 v1 v2 v3 v4 v5 v6 v7 v8 v9 : Value} {x : Int32} (d : decode cc pc = .ok (.putfield 87, 3)) (hg : vAt n g k (.inr (0, [v0, v1, v2, v3, v4, v5, v6, v7, v8, v9]))) (kk : vV p l e R s m args below meth c nL z0 D cells slots Q n ad (va_up g k (.inr (0, [v0, v1, v2, v3, v4, v5, .int x, v7, v8, v9]))) (pc + 3) L st) : vV p l e R s m args below meth c nL z0 D cells slots Q n ad g pc L (.int x :: .ref (ad k) :: st) := v_put (fi := 6) (ty := .int) X d inU_X0 wf_X2_87 tyX0_ok nmX0 rfl (by decide) rfl rfl (by decide +kernel) hg rfl rfl (Nat.le_of_ble_eq_true rfl) kk
theorem gf_X0_33 (X : vCx p s m args c cc RX0 nL z0 D cy) {v0 v1 v2 v3 v4 v5 v6 v7 v8 v9 : Value} (d : decode cc pc = .ok (.getfield 33, 3)) (hg : vAt n g k (.inr (0, [v0, v1, v2, v3, v4, v5, v6, v7, v8, v9]))) (kk : vV p l e R s m args below meth c nL z0 D cells slots Q n ad g (pc + 3) L (v7 :: st)) : vV p l e R s m args below meth c nL z0 D cells slots Q n ad g pc L (.ref (ad k) :: st) := v_get (fi := 7) X d inU_X0 wf_X0_33 rfl (by decide) rfl hg rfl kk
theorem pf_X0_33 (X : vCx p s m args c cc RX0 nL z0 D cy) {v0 v1 v2 v3 v4 v5 v6 v7 v8 v9 : Value} {x : Int32} (d : decode cc pc = .ok (.putfield 33, 3)) (hg : vAt n g k (.inr (0, [v0, v1, v2, v3, v4, v5, v6, v7, v8, v9]))) (kk : vV p l e R s m args below meth c nL z0 D cells slots Q n ad (va_up g k (.inr (0, [v0, v1, v2, v3, v4, v5, v6, .int x, v8, v9]))) (pc + 3) L st) : vV p l e R s m args below meth c nL z0 D cells slots Q n ad g pc L (.int x :: .ref (ad k) :: st) := v_put (fi := 7) (ty := .int) X d inU_X0 wf_X0_33 tyX0_ok nmX0 rfl (by decide) rfl rfl (by decide +kernel) hg rfl rfl (Nat.le_of_ble_eq_true rfl) kk
theorem gf_X2_154 (X : vCx p s m args c cc RX2 nL z0 D cy) {v0 v1 v2 v3 v4 v5 v6 v7 v8 v9 : Value} (d : decode cc pc = .ok (.getfield 154, 3)) (hg : vAt n g k (.inr (0, [v0, v1, v2, v3, v4, v5, v6, v7, v8, v9]))) (kk : vV p l e R s m args below meth c nL z0 D cells slots Q n ad g (pc + 3) L (v7 :: st)) : vV p l e R s m args below meth c nL z0 D cells slots Q n ad g pc L (.ref (ad k) :: st) := v_get (fi := 7) X d inU_X0 wf_X2_154 rfl (by decide) rfl hg rfl kk
theorem pf_X2_154 (X : vCx p s m args c cc RX2 nL z0 D cy) {v0 v1 v2 v3 v4 v5 v6 v7 v8 v9 : Value} {x : Int32} (d : decode cc pc = .ok (.putfield 154, 3)) (hg : vAt n g k (.inr (0, [v0, v1, v2, v3, v4, v5, v6, v7, v8, v9]))) (kk : vV p l e R s m args below meth c nL z0 D cells slots Q n ad (va_up g k (.inr (0, [v0, v1, v2, v3, v4, v5, v6, .int x, v8, v9]))) (pc + 3) L st) : vV p l e R s m args below meth c nL z0 D cells slots Q n ad g pc L (.int x :: .ref (ad k) :: st) := v_put (fi := 7) (ty := .int) X d inU_X0 wf_X2_154 tyX0_ok nmX0 rfl (by decide) rfl rfl (by decide +kernel) hg rfl rfl (Nat.le_of_ble_eq_true rfl) kk
theorem gf_X0_36 (X : vCx p s m args c cc RX0 nL z0 D cy) {v0 v1 v2 v3 v4 v5 v6 v7 v8 v9 : Value} (d : decode cc pc = .ok (.getfield 36, 3)) (hg : vAt n g k (.inr (0, [v0, v1, v2, v3, v4, v5, v6, v7, v8, v9]))) (kk : vV p l e R s m args below meth c nL z0 D cells slots Q n ad g (pc + 3) L (v8 :: st)) : vV p l e R s m args below meth c nL z0 D cells slots Q n ad g pc L (.ref (ad k) :: st) := v_get (fi := 8) X d inU_X0 wf_X0_36 rfl (by decide) rfl hg rfl kk
theorem pf_X0_36 (X : vCx p s m args c cc RX0 nL z0 D cy) {v0 v1 v2 v3 v4 v5 v6 v7 v8 v9 : Value} {x : Int32} (d : decode cc pc = .ok (.putfield 36, 3)) (hg : vAt n g k (.inr (0, [v0, v1, v2, v3, v4, v5, v6, v7, v8, v9]))) (kk : vV p l e R s m args below meth c nL z0 D cells slots Q n ad (va_up g k (.inr (0, [v0, v1, v2, v3, v4, v5, v6, v7, .int x, v9]))) (pc + 3) L st) : vV p l e R s m args below meth c nL z0 D cells slots Q n ad g pc L (.int x :: .ref (ad k) :: st) := v_put (fi := 8) (ty := .int) X d inU_X0 wf_X0_36 tyX0_ok nmX0 rfl (by decide) rfl rfl (by decide +kernel) hg rfl rfl (Nat.le_of_ble_eq_true rfl) kk
theorem gf_X2_157 (X : vCx p s m args c cc RX2 nL z0 D cy) {v0 v1 v2 v3 v4 v5 v6 v7 v8 v9 : Value} (d : decode cc pc = .ok (.getfield 157, 3)) (hg : vAt n g k (.inr (0, [v0, v1, v2, v3, v4, v5, v6, v7, v8, v9]))) (kk : vV p l e R s m args below meth c nL z0 D cells slots Q n ad g (pc + 3) L (v8 :: st)) : vV p l e R s m args below meth c nL z0 D cells slots Q n ad g pc L (.ref (ad k) :: st) := v_get (fi := 8) X d inU_X0 wf_X2_157 rfl (by decide) rfl hg rfl kk
theorem pf_X2_157 (X : vCx p s m args c cc RX2 nL z0 D cy) {v0 v1 v2 v3 v4 v5 v6 v7 v8 v9 : Value} {x : Int32} (d : decode cc pc = .ok (.putfield 157, 3)) (hg : vAt n g k (.inr (0, [v0, v1, v2, v3, v4, v5, v6, v7, v8, v9]))) (kk : vV p l e R s m args below meth c nL z0 D cells slots Q n ad (va_up g k (.inr (0, [v0, v1, v2, v3, v4, v5, v6, v7, .int x, v9]))) (pc + 3) L st) : vV p l e R s m args below meth c nL z0 D cells slots Q n ad g pc L (.int x :: .ref (ad k) :: st) := v_put (fi := 8) (ty := .int) X d inU_X0 wf_X2_157 tyX0_ok nmX0 rfl (by decide) rfl rfl (by decide +kernel) hg rfl rfl (Nat.le_of_ble_eq_true rfl) kk
theorem gf_X0_39 (X : vCx p s m args c cc RX0 nL z0 D cy) {v0 v1 v2 v3 v4 v5 v6 v7 v8 v9 : Value} (d : decode cc pc = .ok (.getfield 39, 3)) (hg : vAt n g k (.inr (0, [v0, v1, v2, v3, v4, v5, v6, v7, v8, v9]))) (kk : vV p l e R s m args below meth c nL z0 D cells slots Q n ad g (pc + 3) L (v9 :: st)) : vV p l e R s m args below meth c nL z0 D cells slots Q n ad g pc L (.ref (ad k) :: st) := v_get (fi := 9) X d inU_X0 wf_X0_39 rfl (by decide) rfl hg rfl kk
theorem pf_X0_39 (X : vCx p s m args c cc RX0 nL z0 D cy) {v0 v1 v2 v3 v4 v5 v6 v7 v8 v9 : Value} {x : Int32} (d : decode cc pc = .ok (.putfield 39, 3)) (hg : vAt n g k (.inr (0, [v0, v1, v2, v3, v4, v5, v6, v7, v8, v9]))) (kk : vV p l e R s m args below meth c nL z0 D cells slots Q n ad (va_up g k (.inr (0, [v0, v1, v2, v3, v4, v5, v6, v7, v8, .int x]))) (pc + 3) L st) : vV p l e R s m args below meth c nL z0 D cells slots Q n ad g pc L (.int x :: .ref (ad k) :: st) := v_put (fi := 9) (ty := .int) X d inU_X0 wf_X0_39 tyX0_ok nmX0 rfl (by decide) rfl rfl (by decide +kernel) hg rfl rfl (Nat.le_of_ble_eq_true rfl) kk
theorem gf_X2_101 (X : vCx p s m args c cc RX2 nL z0 D cy) {v0 v1 v2 v3 v4 v5 v6 v7 v8 v9 : Value} (d : decode cc pc = .ok (.getfield 101, 3)) (hg : vAt n g k (.inr (0, [v0, v1, v2, v3, v4, v5, v6, v7, v8, v9]))) (kk : vV p l e R s m args below meth c nL z0 D cells slots Q n ad g (pc + 3) L (v9 :: st)) : vV p l e R s m args below meth c nL z0 D cells slots Q n ad g pc L (.ref (ad k) :: st) := v_get (fi := 9) X d inU_X0 wf_X2_101 rfl (by decide) rfl hg rfl kk
theorem pf_X2_101 (X : vCx p s m args c cc RX2 nL z0 D cy) {v0 v1 v2 v3 v4 v5 v6 v7 v8 v9 : Value} {x : Int32} (d : decode cc pc = .ok (.putfield 101, 3)) (hg : vAt n g k (.inr (0, [v0, v1, v2, v3, v4, v5, v6, v7, v8, v9]))) (kk : vV p l e R s m args below meth c nL z0 D cells slots Q n ad (va_up g k (.inr (0, [v0, v1, v2, v3, v4, v5, v6, v7, v8, .int x]))) (pc + 3) L st) : vV p l e R s m args below meth c nL z0 D cells slots Q n ad g pc L (.int x :: .ref (ad k) :: st) := v_put (fi := 9) (ty := .int) X d inU_X0 wf_X2_101 tyX0_ok nmX0 rfl (by decide) rfl rfl (by decide +kernel) hg rfl rfl (Nat.le_of_ble_eq_true rfl) kk
theorem gf_X1_7 (X : vCx p s m args c cc RX1 nL z0 D cy) {v0 v1 v2 v3 v4 v5 : Value} (d : decode cc pc = .ok (.getfield 7, 3)) (hg : vAt n g k (.inr (1, [v0, v1, v2, v3, v4, v5]))) (kk : vV p l e R s m args below meth c nL z0 D cells slots Q n ad g (pc + 3) L (v0 :: st)) : vV p l e R s m args below meth c nL z0 D cells slots Q n ad g pc L (.ref (ad k) :: st) := v_get (fi := 0) X d inU_X1 wf_X1_7 rfl (by decide) rfl hg rfl kk
theorem pf_X1_7 (X : vCx p s m args c cc RX1 nL z0 D cy) {v0 v1 v2 v3 v4 v5 : Value} {x : Int32} (d : decode cc pc = .ok (.putfield 7, 3)) (hg : vAt n g k (.inr (1, [v0, v1, v2, v3, v4, v5]))) (kk : vV p l e R s m args below meth c nL z0 D cells slots Q n ad (va_up g k (.inr (1, [.int x, v1, v2, v3, v4, v5]))) (pc + 3) L st) : vV p l e R s m args below meth c nL z0 D cells slots Q n ad g pc L (.int x :: .ref (ad k) :: st) := v_put (fi := 0) (ty := .int) X d inU_X1 wf_X1_7 tyX1_ok nmX1 rfl (by decide) rfl rfl (by decide +kernel) hg rfl rfl (Nat.le_of_ble_eq_true rfl) kk
theorem gf_X2_70 (X : vCx p s m args c cc RX2 nL z0 D cy) {v0 v1 v2 v3 v4 v5 : Value} (d : decode cc pc = .ok (.getfield 70, 3)) (hg : vAt n g k (.inr (1, [v0, v1, v2, v3, v4, v5]))) (kk : vV p l e R s m args below meth c nL z0 D cells slots Q n ad g (pc + 3) L (v0 :: st)) : vV p l e R s m args below meth c nL z0 D cells slots Q n ad g pc L (.ref (ad k) :: st) := v_get (fi := 0) X d inU_X1 wf_X2_70 rfl (by decide) rfl hg rfl kk
theorem pf_X2_70 (X : vCx p s m args c cc RX2 nL z0 D cy) {v0 v1 v2 v3 v4 v5 : Value} {x : Int32} (d : decode cc pc = .ok (.putfield 70, 3)) (hg : vAt n g k (.inr (1, [v0, v1, v2, v3, v4, v5]))) (kk : vV p l e R s m args below meth c nL z0 D cells slots Q n ad (va_up g k (.inr (1, [.int x, v1, v2, v3, v4, v5]))) (pc + 3) L st) : vV p l e R s m args below meth c nL z0 D cells slots Q n ad g pc L (.int x :: .ref (ad k) :: st) := v_put (fi := 0) (ty := .int) X d inU_X1 wf_X2_70 tyX1_ok nmX1 rfl (by decide) rfl rfl (by decide +kernel) hg rfl rfl (Nat.le_of_ble_eq_true rfl) kk
theorem gf_X1_13 (X : vCx p s m args c cc RX1 nL z0 D cy) {v0 v1 v2 v3 v4 v5 : Value} (d : decode cc pc = .ok (.getfield 13, 3)) (hg : vAt n g k (.inr (1, [v0, v1, v2, v3, v4, v5]))) (kk : vV p l e R s m args below meth c nL z0 D cells slots Q n ad g (pc + 3) L (v1 :: st)) : vV p l e R s m args below meth c nL z0 D cells slots Q n ad g pc L (.ref (ad k) :: st) := v_get (fi := 1) X d inU_X1 wf_X1_13 rfl (by decide) rfl hg rfl kk
theorem pf_X1_13 (X : vCx p s m args c cc RX1 nL z0 D cy) {v0 v1 v2 v3 v4 v5 : Value} {x : Int32} (d : decode cc pc = .ok (.putfield 13, 3)) (hg : vAt n g k (.inr (1, [v0, v1, v2, v3, v4, v5]))) (kk : vV p l e R s m args below meth c nL z0 D cells slots Q n ad (va_up g k (.inr (1, [v0, .int x, v2, v3, v4, v5]))) (pc + 3) L st) : vV p l e R s m args below meth c nL z0 D cells slots Q n ad g pc L (.int x :: .ref (ad k) :: st) := v_put (fi := 1) (ty := .int) X d inU_X1 wf_X1_13 tyX1_ok nmX1 rfl (by decide) rfl rfl (by decide +kernel) hg rfl rfl (Nat.le_of_ble_eq_true rfl) kk
theorem gf_X2_73 (X : vCx p s m args c cc RX2 nL z0 D cy) {v0 v1 v2 v3 v4 v5 : Value} (d : decode cc pc = .ok (.getfield 73, 3)) (hg : vAt n g k (.inr (1, [v0, v1, v2, v3, v4, v5]))) (kk : vV p l e R s m args below meth c nL z0 D cells slots Q n ad g (pc + 3) L (v1 :: st)) : vV p l e R s m args below meth c nL z0 D cells slots Q n ad g pc L (.ref (ad k) :: st) := v_get (fi := 1) X d inU_X1 wf_X2_73 rfl (by decide) rfl hg rfl kk
theorem pf_X2_73 (X : vCx p s m args c cc RX2 nL z0 D cy) {v0 v1 v2 v3 v4 v5 : Value} {x : Int32} (d : decode cc pc = .ok (.putfield 73, 3)) (hg : vAt n g k (.inr (1, [v0, v1, v2, v3, v4, v5]))) (kk : vV p l e R s m args below meth c nL z0 D cells slots Q n ad (va_up g k (.inr (1, [v0, .int x, v2, v3, v4, v5]))) (pc + 3) L st) : vV p l e R s m args below meth c nL z0 D cells slots Q n ad g pc L (.int x :: .ref (ad k) :: st) := v_put (fi := 1) (ty := .int) X d inU_X1 wf_X2_73 tyX1_ok nmX1 rfl (by decide) rfl rfl (by decide +kernel) hg rfl rfl (Nat.le_of_ble_eq_true rfl) kk
theorem gf_X1_16 (X : vCx p s m args c cc RX1 nL z0 D cy) {v0 v1 v2 v3 v4 v5 : Value} (d : decode cc pc = .ok (.getfield 16, 3)) (hg : vAt n g k (.inr (1, [v0, v1, v2, v3, v4, v5]))) (kk : vV p l e R s m args below meth c nL z0 D cells slots Q n ad g (pc + 3) L (v2 :: st)) : vV p l e R s m args below meth c nL z0 D cells slots Q n ad g pc L (.ref (ad k) :: st) := v_get (fi := 2) X d inU_X1 wf_X1_16 rfl (by decide) rfl hg rfl kk
theorem pf_X1_16 (X : vCx p s m args c cc RX1 nL z0 D cy) {v0 v1 v2 v3 v4 v5 : Value} {x : Int32} (d : decode cc pc = .ok (.putfield 16, 3)) (hg : vAt n g k (.inr (1, [v0, v1, v2, v3, v4, v5]))) (kk : vV p l e R s m args below meth c nL z0 D cells slots Q n ad (va_up g k (.inr (1, [v0, v1, .int x, v3, v4, v5]))) (pc + 3) L st) : vV p l e R s m args below meth c nL z0 D cells slots Q n ad g pc L (.int x :: .ref (ad k) :: st) := v_put (fi := 2) (ty := .int) X d inU_X1 wf_X1_16 tyX1_ok nmX1 rfl (by decide) rfl rfl (by decide +kernel) hg rfl rfl (Nat.le_of_ble_eq_true rfl) kk
theorem gf_X2_76 (X : vCx p s m args c cc RX2 nL z0 D cy) {v0 v1 v2 v3 v4 v5 : Value} (d : decode cc pc = .ok (.getfield 76, 3)) (hg : vAt n g k (.inr (1, [v0, v1, v2, v3, v4, v5]))) (kk : vV p l e R s m args below meth c nL z0 D cells slots Q n ad g (pc + 3) L (v2 :: st)) : vV p l e R s m args below meth c nL z0 D cells slots Q n ad g pc L (.ref (ad k) :: st) := v_get (fi := 2) X d inU_X1 wf_X2_76 rfl (by decide) rfl hg rfl kk
theorem pf_X2_76 (X : vCx p s m args c cc RX2 nL z0 D cy) {v0 v1 v2 v3 v4 v5 : Value} {x : Int32} (d : decode cc pc = .ok (.putfield 76, 3)) (hg : vAt n g k (.inr (1, [v0, v1, v2, v3, v4, v5]))) (kk : vV p l e R s m args below meth c nL z0 D cells slots Q n ad (va_up g k (.inr (1, [v0, v1, .int x, v3, v4, v5]))) (pc + 3) L st) : vV p l e R s m args below meth c nL z0 D cells slots Q n ad g pc L (.int x :: .ref (ad k) :: st) := v_put (fi := 2) (ty := .int) X d inU_X1 wf_X2_76 tyX1_ok nmX1 rfl (by decide) rfl rfl (by decide +kernel) hg rfl rfl (Nat.le_of_ble_eq_true rfl) kk
theorem gf_X1_19 (X : vCx p s m args c cc RX1 nL z0 D cy) {v0 v1 v2 v3 v4 v5 : Value} (d : decode cc pc = .ok (.getfield 19, 3)) (hg : vAt n g k (.inr (1, [v0, v1, v2, v3, v4, v5]))) (kk : vV p l e R s m args below meth c nL z0 D cells slots Q n ad g (pc + 3) L (v3 :: st)) : vV p l e R s m args below meth c nL z0 D cells slots Q n ad g pc L (.ref (ad k) :: st) := v_get (fi := 3) X d inU_X1 wf_X1_19 rfl (by decide) rfl hg rfl kk
theorem pf_X1_19 (X : vCx p s m args c cc RX1 nL z0 D cy) {v0 v1 v2 v3 v4 v5 : Value} {x : Int32} (d : decode cc pc = .ok (.putfield 19, 3)) (hn : narrow .boolean (.int x) = .int x) (hft : fits .boolean (.int x) = true) (hg : vAt n g k (.inr (1, [v0, v1, v2, v3, v4, v5]))) (kk : vV p l e R s m args below meth c nL z0 D cells slots Q n ad (va_up g k (.inr (1, [v0, v1, v2, .int x, v4, v5]))) (pc + 3) L st) : vV p l e R s m args below meth c nL z0 D cells slots Q n ad g pc L (.int x :: .ref (ad k) :: st) := v_put (fi := 3) (ty := .boolean) X d inU_X1 wf_X1_19 tyX1_ok nmX1 rfl (by decide) rfl rfl (by decide +kernel) hg hn hft (Nat.le_of_ble_eq_true rfl) kk
theorem gf_X4_96 (X : vCx p s m args c cc RX4 nL z0 D cy) {v0 v1 v2 v3 v4 v5 : Value} (d : decode cc pc = .ok (.getfield 96, 3)) (hg : vAt n g k (.inr (1, [v0, v1, v2, v3, v4, v5]))) (kk : vV p l e R s m args below meth c nL z0 D cells slots Q n ad g (pc + 3) L (v3 :: st)) : vV p l e R s m args below meth c nL z0 D cells slots Q n ad g pc L (.ref (ad k) :: st) := v_get (fi := 3) X d inU_X1 wf_X4_96 rfl (by decide) rfl hg rfl kk
theorem pf_X4_96 (X : vCx p s m args c cc RX4 nL z0 D cy) {v0 v1 v2 v3 v4 v5 : Value} {x : Int32} (d : decode cc pc = .ok (.putfield 96, 3)) (hn : narrow .boolean (.int x) = .int x) (hft : fits .boolean (.int x) = true) (hg : vAt n g k (.inr (1, [v0, v1, v2, v3, v4, v5]))) (kk : vV p l e R s m args below meth c nL z0 D cells slots Q n ad (va_up g k (.inr (1, [v0, v1, v2, .int x, v4, v5]))) (pc + 3) L st) : vV p l e R s m args below meth c nL z0 D cells slots Q n ad g pc L (.int x :: .ref (ad k) :: st) := v_put (fi := 3) (ty := .boolean) X d inU_X1 wf_X4_96 tyX1_ok nmX1 rfl (by decide) rfl rfl (by decide +kernel) hg hn hft (Nat.le_of_ble_eq_true rfl) kk
theorem gf_X2_79 (X : vCx p s m args c cc RX2 nL z0 D cy) {v0 v1 v2 v3 v4 v5 : Value} (d : decode cc pc = .ok (.getfield 79, 3)) (hg : vAt n g k (.inr (1, [v0, v1, v2, v3, v4, v5]))) (kk : vV p l e R s m args below meth c nL z0 D cells slots Q n ad g (pc + 3) L (v3 :: st)) : vV p l e R s m args below meth c nL z0 D cells slots Q n ad g pc L (.ref (ad k) :: st) := v_get (fi := 3) X d inU_X1 wf_X2_79 rfl (by decide) rfl hg rfl kk
theorem pf_X2_79 (X : vCx p s m args c cc RX2 nL z0 D cy) {v0 v1 v2 v3 v4 v5 : Value} {x : Int32} (d : decode cc pc = .ok (.putfield 79, 3)) (hn : narrow .boolean (.int x) = .int x) (hft : fits .boolean (.int x) = true) (hg : vAt n g k (.inr (1, [v0, v1, v2, v3, v4, v5]))) (kk : vV p l e R s m args below meth c nL z0 D cells slots Q n ad (va_up g k (.inr (1, [v0, v1, v2, .int x, v4, v5]))) (pc + 3) L st) : vV p l e R s m args below meth c nL z0 D cells slots Q n ad g pc L (.int x :: .ref (ad k) :: st) := v_put (fi := 3) (ty := .boolean) X d inU_X1 wf_X2_79 tyX1_ok nmX1 rfl (by decide) rfl rfl (by decide +kernel) hg hn hft (Nat.le_of_ble_eq_true rfl) kk
theorem gf_X1_23 (X : vCx p s m args c cc RX1 nL z0 D cy) {v0 v1 v2 v3 v4 v5 : Value} (d : decode cc pc = .ok (.getfield 23, 3)) (hg : vAt n g k (.inr (1, [v0, v1, v2, v3, v4, v5]))) (kk : vV p l e R s m args below meth c nL z0 D cells slots Q n ad g (pc + 3) L (v4 :: st)) : vV p l e R s m args below meth c nL z0 D cells slots Q n ad g pc L (.ref (ad k) :: st) := v_get (fi := 4) X d inU_X1 wf_X1_23 rfl (by decide) rfl hg rfl kk
theorem pf_X1_23 (X : vCx p s m args c cc RX1 nL z0 D cy) {v0 v1 v2 v3 v4 v5 : Value} {x : Int32} (d : decode cc pc = .ok (.putfield 23, 3)) (hg : vAt n g k (.inr (1, [v0, v1, v2, v3, v4, v5]))) (kk : vV p l e R s m args below meth c nL z0 D cells slots Q n ad (va_up g k (.inr (1, [v0, v1, v2, v3, .int x, v5]))) (pc + 3) L st) : vV p l e R s m args below meth c nL z0 D cells slots Q n ad g pc L (.int x :: .ref (ad k) :: st) := v_put (fi := 4) (ty := .int) X d inU_X1 wf_X1_23 tyX1_ok nmX1 rfl (by decide) rfl rfl (by decide +kernel) hg rfl rfl (Nat.le_of_ble_eq_true rfl) kk
theorem gf_X1_26 (X : vCx p s m args c cc RX1 nL z0 D cy) {v0 v1 v2 v3 v4 v5 : Value} (d : decode cc pc = .ok (.getfield 26, 3)) (hg : vAt n g k (.inr (1, [v0, v1, v2, v3, v4, v5]))) (kk : vV p l e R s m args below meth c nL z0 D cells slots Q n ad g (pc + 3) L (v5 :: st)) : vV p l e R s m args below meth c nL z0 D cells slots Q n ad g pc L (.ref (ad k) :: st) := v_get (fi := 5) X d inU_X1 wf_X1_26 rfl (by decide) rfl hg rfl kk
theorem pf_X1_26 (X : vCx p s m args c cc RX1 nL z0 D cy) {v0 v1 v2 v3 v4 v5 : Value} {x : Int32} (d : decode cc pc = .ok (.putfield 26, 3)) (hg : vAt n g k (.inr (1, [v0, v1, v2, v3, v4, v5]))) (kk : vV p l e R s m args below meth c nL z0 D cells slots Q n ad (va_up g k (.inr (1, [v0, v1, v2, v3, v4, .int x]))) (pc + 3) L st) : vV p l e R s m args below meth c nL z0 D cells slots Q n ad g pc L (.int x :: .ref (ad k) :: st) := v_put (fi := 5) (ty := .int) X d inU_X1 wf_X1_26 tyX1_ok nmX1 rfl (by decide) rfl rfl (by decide +kernel) hg rfl rfl (Nat.le_of_ble_eq_true rfl) kk
theorem gf_X2_23 (X : vCx p s m args c cc RX2 nL z0 D cy) {v0 v1 v2 v3 v4 v5 v6 v7 v8 v9 : Value} (d : decode cc pc = .ok (.getfield 23, 3)) (hg : vAt n g k (.inr (2, [v0, v1, v2, v3, v4, v5, v6, v7, v8, v9]))) (kk : vV p l e R s m args below meth c nL z0 D cells slots Q n ad g (pc + 3) L (v0 :: st)) : vV p l e R s m args below meth c nL z0 D cells slots Q n ad g pc L (.ref (ad k) :: st) := v_get (fi := 0) X d inU_X2 wf_X2_23 rfl (by decide) rfl hg rfl kk
theorem pf_X2_23 (X : vCx p s m args c cc RX2 nL z0 D cy) (hini : meth.name = "<init>") {v0 v1 v2 v3 v4 v5 v6 v7 v8 v9 : Value} {x : Nat} (d : decode cc pc = .ok (.putfield 23, 3)) (hg : vAt n g k (.inr (2, [v0, v1, v2, v3, v4, v5, v6, v7, v8, v9]))) (kk : vV p l e R s m args below meth c nL z0 D cells slots Q n ad (va_up g k (.inr (2, [.ref x, v1, v2, v3, v4, v5, v6, v7, v8, v9]))) (pc + 3) L st) : vV p l e R s m args below meth c nL z0 D cells slots Q n ad g pc L (.ref x :: .ref (ad k) :: st) := v_putF (fi := 0) (ty := (.object "RoofWater$Weather")) X d inU_X2 wf_X2_23 tyX2_ok nmX2 rfl (by decide) rfl rfl hini rfl (by decide +kernel) hg rfl rfl (Nat.le_of_ble_eq_true rfl) kk
theorem gf_X2_13 (X : vCx p s m args c cc RX2 nL z0 D cy) {v0 v1 v2 v3 v4 v5 v6 v7 v8 v9 : Value} (d : decode cc pc = .ok (.getfield 13, 3)) (hg : vAt n g k (.inr (2, [v0, v1, v2, v3, v4, v5, v6, v7, v8, v9]))) (kk : vV p l e R s m args below meth c nL z0 D cells slots Q n ad g (pc + 3) L (v1 :: st)) : vV p l e R s m args below meth c nL z0 D cells slots Q n ad g pc L (.ref (ad k) :: st) := v_get (fi := 1) X d inU_X2 wf_X2_13 rfl (by decide) rfl hg rfl kk
theorem pf_X2_13 (X : vCx p s m args c cc RX2 nL z0 D cy) (hini : meth.name = "<init>") {v0 v1 v2 v3 v4 v5 v6 v7 v8 v9 : Value} {x : Nat} (d : decode cc pc = .ok (.putfield 13, 3)) (hg : vAt n g k (.inr (2, [v0, v1, v2, v3, v4, v5, v6, v7, v8, v9]))) (kk : vV p l e R s m args below meth c nL z0 D cells slots Q n ad (va_up g k (.inr (2, [v0, .ref x, v2, v3, v4, v5, v6, v7, v8, v9]))) (pc + 3) L st) : vV p l e R s m args below meth c nL z0 D cells slots Q n ad g pc L (.ref x :: .ref (ad k) :: st) := v_putF (fi := 1) (ty := (.array (.object "RoofWater$House"))) X d inU_X2 wf_X2_13 tyX2_ok nmX2 rfl (by decide) rfl rfl hini rfl (by decide +kernel) hg rfl rfl (Nat.le_of_ble_eq_true rfl) kk
theorem gf_X4_70 (X : vCx p s m args c cc RX4 nL z0 D cy) {v0 v1 v2 v3 v4 v5 v6 v7 v8 v9 : Value} (d : decode cc pc = .ok (.getfield 70, 3)) (hg : vAt n g k (.inr (2, [v0, v1, v2, v3, v4, v5, v6, v7, v8, v9]))) (kk : vV p l e R s m args below meth c nL z0 D cells slots Q n ad g (pc + 3) L (v1 :: st)) : vV p l e R s m args below meth c nL z0 D cells slots Q n ad g pc L (.ref (ad k) :: st) := v_get (fi := 1) X d inU_X2 wf_X4_70 rfl (by decide) rfl hg rfl kk
theorem gf_X2_19 (X : vCx p s m args c cc RX2 nL z0 D cy) {v0 v1 v2 v3 v4 v5 v6 v7 v8 v9 : Value} (d : decode cc pc = .ok (.getfield 19, 3)) (hg : vAt n g k (.inr (2, [v0, v1, v2, v3, v4, v5, v6, v7, v8, v9]))) (kk : vV p l e R s m args below meth c nL z0 D cells slots Q n ad g (pc + 3) L (v2 :: st)) : vV p l e R s m args below meth c nL z0 D cells slots Q n ad g pc L (.ref (ad k) :: st) := v_get (fi := 2) X d inU_X2 wf_X2_19 rfl (by decide) rfl hg rfl kk
theorem pf_X2_19 (X : vCx p s m args c cc RX2 nL z0 D cy) (hini : meth.name = "<init>") {v0 v1 v2 v3 v4 v5 v6 v7 v8 v9 : Value} {x : Nat} (d : decode cc pc = .ok (.putfield 19, 3)) (hg : vAt n g k (.inr (2, [v0, v1, v2, v3, v4, v5, v6, v7, v8, v9]))) (kk : vV p l e R s m args below meth c nL z0 D cells slots Q n ad (va_up g k (.inr (2, [v0, v1, .ref x, v3, v4, v5, v6, v7, v8, v9]))) (pc + 3) L st) : vV p l e R s m args below meth c nL z0 D cells slots Q n ad g pc L (.ref x :: .ref (ad k) :: st) := v_putF (fi := 2) (ty := (.array (.object "RoofWater$Pipe"))) X d inU_X2 wf_X2_19 tyX2_ok nmX2 rfl (by decide) rfl rfl hini rfl (by decide +kernel) hg rfl rfl (Nat.le_of_ble_eq_true rfl) kk
theorem gf_X4_92 (X : vCx p s m args c cc RX4 nL z0 D cy) {v0 v1 v2 v3 v4 v5 v6 v7 v8 v9 : Value} (d : decode cc pc = .ok (.getfield 92, 3)) (hg : vAt n g k (.inr (2, [v0, v1, v2, v3, v4, v5, v6, v7, v8, v9]))) (kk : vV p l e R s m args below meth c nL z0 D cells slots Q n ad g (pc + 3) L (v2 :: st)) : vV p l e R s m args below meth c nL z0 D cells slots Q n ad g pc L (.ref (ad k) :: st) := v_get (fi := 2) X d inU_X2 wf_X4_92 rfl (by decide) rfl hg rfl kk
theorem gf_X2_29 (X : vCx p s m args c cc RX2 nL z0 D cy) {v0 v1 v2 v3 v4 v5 v6 v7 v8 v9 : Value} (d : decode cc pc = .ok (.getfield 29, 3)) (hg : vAt n g k (.inr (2, [v0, v1, v2, v3, v4, v5, v6, v7, v8, v9]))) (kk : vV p l e R s m args below meth c nL z0 D cells slots Q n ad g (pc + 3) L (v3 :: st)) : vV p l e R s m args below meth c nL z0 D cells slots Q n ad g pc L (.ref (ad k) :: st) := v_get (fi := 3) X d inU_X2 wf_X2_29 rfl (by decide) rfl hg rfl kk
theorem pf_X2_29 (X : vCx p s m args c cc RX2 nL z0 D cy) {v0 v1 v2 v3 v4 v5 v6 v7 v8 v9 : Value} {x : Int32} (d : decode cc pc = .ok (.putfield 29, 3)) (hg : vAt n g k (.inr (2, [v0, v1, v2, v3, v4, v5, v6, v7, v8, v9]))) (kk : vV p l e R s m args below meth c nL z0 D cells slots Q n ad (va_up g k (.inr (2, [v0, v1, v2, .int x, v4, v5, v6, v7, v8, v9]))) (pc + 3) L st) : vV p l e R s m args below meth c nL z0 D cells slots Q n ad g pc L (.int x :: .ref (ad k) :: st) := v_put (fi := 3) (ty := .int) X d inU_X2 wf_X2_29 tyX2_ok nmX2 rfl (by decide) rfl rfl (by decide +kernel) hg rfl rfl (Nat.le_of_ble_eq_true rfl) kk
theorem gf_X4_47 (X : vCx p s m args c cc RX4 nL z0 D cy) {v0 v1 v2 v3 v4 v5 v6 v7 v8 v9 : Value} (d : decode cc pc = .ok (.getfield 47, 3)) (hg : vAt n g k (.inr (2, [v0, v1, v2, v3, v4, v5, v6, v7, v8, v9]))) (kk : vV p l e R s m args below meth c nL z0 D cells slots Q n ad g (pc + 3) L (v3 :: st)) : vV p l e R s m args below meth c nL z0 D cells slots Q n ad g pc L (.ref (ad k) :: st) := v_get (fi := 3) X d inU_X2 wf_X4_47 rfl (by decide) rfl hg rfl kk
theorem pf_X4_47 (X : vCx p s m args c cc RX4 nL z0 D cy) {v0 v1 v2 v3 v4 v5 v6 v7 v8 v9 : Value} {x : Int32} (d : decode cc pc = .ok (.putfield 47, 3)) (hg : vAt n g k (.inr (2, [v0, v1, v2, v3, v4, v5, v6, v7, v8, v9]))) (kk : vV p l e R s m args below meth c nL z0 D cells slots Q n ad (va_up g k (.inr (2, [v0, v1, v2, .int x, v4, v5, v6, v7, v8, v9]))) (pc + 3) L st) : vV p l e R s m args below meth c nL z0 D cells slots Q n ad g pc L (.int x :: .ref (ad k) :: st) := v_put (fi := 3) (ty := .int) X d inU_X2 wf_X4_47 tyX2_ok nmX2 rfl (by decide) rfl rfl (by decide +kernel) hg rfl rfl (Nat.le_of_ble_eq_true rfl) kk
theorem gf_X2_33 (X : vCx p s m args c cc RX2 nL z0 D cy) {v0 v1 v2 v3 v4 v5 v6 v7 v8 v9 : Value} (d : decode cc pc = .ok (.getfield 33, 3)) (hg : vAt n g k (.inr (2, [v0, v1, v2, v3, v4, v5, v6, v7, v8, v9]))) (kk : vV p l e R s m args below meth c nL z0 D cells slots Q n ad g (pc + 3) L (v4 :: st)) : vV p l e R s m args below meth c nL z0 D cells slots Q n ad g pc L (.ref (ad k) :: st) := v_get (fi := 4) X d inU_X2 wf_X2_33 rfl (by decide) rfl hg rfl kk
theorem pf_X2_33 (X : vCx p s m args c cc RX2 nL z0 D cy) {v0 v1 v2 v3 v4 v5 v6 v7 v8 v9 : Value} {x : Int32} (d : decode cc pc = .ok (.putfield 33, 3)) (hg : vAt n g k (.inr (2, [v0, v1, v2, v3, v4, v5, v6, v7, v8, v9]))) (kk : vV p l e R s m args below meth c nL z0 D cells slots Q n ad (va_up g k (.inr (2, [v0, v1, v2, v3, .int x, v5, v6, v7, v8, v9]))) (pc + 3) L st) : vV p l e R s m args below meth c nL z0 D cells slots Q n ad g pc L (.int x :: .ref (ad k) :: st) := v_put (fi := 4) (ty := .int) X d inU_X2 wf_X2_33 tyX2_ok nmX2 rfl (by decide) rfl rfl (by decide +kernel) hg rfl rfl (Nat.le_of_ble_eq_true rfl) kk
theorem gf_X4_82 (X : vCx p s m args c cc RX4 nL z0 D cy) {v0 v1 v2 v3 v4 v5 v6 v7 v8 v9 : Value} (d : decode cc pc = .ok (.getfield 82, 3)) (hg : vAt n g k (.inr (2, [v0, v1, v2, v3, v4, v5, v6, v7, v8, v9]))) (kk : vV p l e R s m args below meth c nL z0 D cells slots Q n ad g (pc + 3) L (v4 :: st)) : vV p l e R s m args below meth c nL z0 D cells slots Q n ad g pc L (.ref (ad k) :: st) := v_get (fi := 4) X d inU_X2 wf_X4_82 rfl (by decide) rfl hg rfl kk
theorem pf_X4_82 (X : vCx p s m args c cc RX4 nL z0 D cy) {v0 v1 v2 v3 v4 v5 v6 v7 v8 v9 : Value} {x : Int32} (d : decode cc pc = .ok (.putfield 82, 3)) (hg : vAt n g k (.inr (2, [v0, v1, v2, v3, v4, v5, v6, v7, v8, v9]))) (kk : vV p l e R s m args below meth c nL z0 D cells slots Q n ad (va_up g k (.inr (2, [v0, v1, v2, v3, .int x, v5, v6, v7, v8, v9]))) (pc + 3) L st) : vV p l e R s m args below meth c nL z0 D cells slots Q n ad g pc L (.int x :: .ref (ad k) :: st) := v_put (fi := 4) (ty := .int) X d inU_X2 wf_X4_82 tyX2_ok nmX2 rfl (by decide) rfl rfl (by decide +kernel) hg rfl rfl (Nat.le_of_ble_eq_true rfl) kk
theorem gf_X2_36 (X : vCx p s m args c cc RX2 nL z0 D cy) {v0 v1 v2 v3 v4 v5 v6 v7 v8 v9 : Value} (d : decode cc pc = .ok (.getfield 36, 3)) (hg : vAt n g k (.inr (2, [v0, v1, v2, v3, v4, v5, v6, v7, v8, v9]))) (kk : vV p l e R s m args below meth c nL z0 D cells slots Q n ad g (pc + 3) L (v5 :: st)) : vV p l e R s m args below meth c nL z0 D cells slots Q n ad g pc L (.ref (ad k) :: st) := v_get (fi := 5) X d inU_X2 wf_X2_36 rfl (by decide) rfl hg rfl kk
theorem pf_X2_36 (X : vCx p s m args c cc RX2 nL z0 D cy) {v0 v1 v2 v3 v4 v5 v6 v7 v8 v9 : Value} {x : Int32} (d : decode cc pc = .ok (.putfield 36, 3)) (hg : vAt n g k (.inr (2, [v0, v1, v2, v3, v4, v5, v6, v7, v8, v9]))) (kk : vV p l e R s m args below meth c nL z0 D cells slots Q n ad (va_up g k (.inr (2, [v0, v1, v2, v3, v4, .int x, v6, v7, v8, v9]))) (pc + 3) L st) : vV p l e R s m args below meth c nL z0 D cells slots Q n ad g pc L (.int x :: .ref (ad k) :: st) := v_put (fi := 5) (ty := .int) X d inU_X2 wf_X2_36 tyX2_ok nmX2 rfl (by decide) rfl rfl (by decide +kernel) hg rfl rfl (Nat.le_of_ble_eq_true rfl) kk
theorem gf_X2_39 (X : vCx p s m args c cc RX2 nL z0 D cy) {v0 v1 v2 v3 v4 v5 v6 v7 v8 v9 : Value} (d : decode cc pc = .ok (.getfield 39, 3)) (hg : vAt n g k (.inr (2, [v0, v1, v2, v3, v4, v5, v6, v7, v8, v9]))) (kk : vV p l e R s m args below meth c nL z0 D cells slots Q n ad g (pc + 3) L (v6 :: st)) : vV p l e R s m args below meth c nL z0 D cells slots Q n ad g pc L (.ref (ad k) :: st) := v_get (fi := 6) X d inU_X2 wf_X2_39 rfl (by decide) rfl hg rfl kk
theorem pf_X2_39 (X : vCx p s m args c cc RX2 nL z0 D cy) {v0 v1 v2 v3 v4 v5 v6 v7 v8 v9 : Value} {x : Int32} (d : decode cc pc = .ok (.putfield 39, 3)) (hg : vAt n g k (.inr (2, [v0, v1, v2, v3, v4, v5, v6, v7, v8, v9]))) (kk : vV p l e R s m args below meth c nL z0 D cells slots Q n ad (va_up g k (.inr (2, [v0, v1, v2, v3, v4, v5, .int x, v7, v8, v9]))) (pc + 3) L st) : vV p l e R s m args below meth c nL z0 D cells slots Q n ad g pc L (.int x :: .ref (ad k) :: st) := v_put (fi := 6) (ty := .int) X d inU_X2 wf_X2_39 tyX2_ok nmX2 rfl (by decide) rfl rfl (by decide +kernel) hg rfl rfl (Nat.le_of_ble_eq_true rfl) kk
theorem gf_X2_42 (X : vCx p s m args c cc RX2 nL z0 D cy) {v0 v1 v2 v3 v4 v5 v6 v7 v8 v9 : Value} (d : decode cc pc = .ok (.getfield 42, 3)) (hg : vAt n g k (.inr (2, [v0, v1, v2, v3, v4, v5, v6, v7, v8, v9]))) (kk : vV p l e R s m args below meth c nL z0 D cells slots Q n ad g (pc + 3) L (v7 :: st)) : vV p l e R s m args below meth c nL z0 D cells slots Q n ad g pc L (.ref (ad k) :: st) := v_get (fi := 7) X d inU_X2 wf_X2_42 rfl (by decide) rfl hg rfl kk
theorem pf_X2_42 (X : vCx p s m args c cc RX2 nL z0 D cy) {v0 v1 v2 v3 v4 v5 v6 v7 v8 v9 : Value} {x : Int32} (d : decode cc pc = .ok (.putfield 42, 3)) (hg : vAt n g k (.inr (2, [v0, v1, v2, v3, v4, v5, v6, v7, v8, v9]))) (kk : vV p l e R s m args below meth c nL z0 D cells slots Q n ad (va_up g k (.inr (2, [v0, v1, v2, v3, v4, v5, v6, .int x, v8, v9]))) (pc + 3) L st) : vV p l e R s m args below meth c nL z0 D cells slots Q n ad g pc L (.int x :: .ref (ad k) :: st) := v_put (fi := 7) (ty := .int) X d inU_X2 wf_X2_42 tyX2_ok nmX2 rfl (by decide) rfl rfl (by decide +kernel) hg rfl rfl (Nat.le_of_ble_eq_true rfl) kk
theorem gf_X4_136 (X : vCx p s m args c cc RX4 nL z0 D cy) {v0 v1 v2 v3 v4 v5 v6 v7 v8 v9 : Value} (d : decode cc pc = .ok (.getfield 136, 3)) (hg : vAt n g k (.inr (2, [v0, v1, v2, v3, v4, v5, v6, v7, v8, v9]))) (kk : vV p l e R s m args below meth c nL z0 D cells slots Q n ad g (pc + 3) L (v7 :: st)) : vV p l e R s m args below meth c nL z0 D cells slots Q n ad g pc L (.ref (ad k) :: st) := v_get (fi := 7) X d inU_X2 wf_X4_136 rfl (by decide) rfl hg rfl kk
theorem pf_X4_136 (X : vCx p s m args c cc RX4 nL z0 D cy) {v0 v1 v2 v3 v4 v5 v6 v7 v8 v9 : Value} {x : Int32} (d : decode cc pc = .ok (.putfield 136, 3)) (hg : vAt n g k (.inr (2, [v0, v1, v2, v3, v4, v5, v6, v7, v8, v9]))) (kk : vV p l e R s m args below meth c nL z0 D cells slots Q n ad (va_up g k (.inr (2, [v0, v1, v2, v3, v4, v5, v6, .int x, v8, v9]))) (pc + 3) L st) : vV p l e R s m args below meth c nL z0 D cells slots Q n ad g pc L (.int x :: .ref (ad k) :: st) := v_put (fi := 7) (ty := .int) X d inU_X2 wf_X4_136 tyX2_ok nmX2 rfl (by decide) rfl rfl (by decide +kernel) hg rfl rfl (Nat.le_of_ble_eq_true rfl) kk
theorem gf_X2_45 (X : vCx p s m args c cc RX2 nL z0 D cy) {v0 v1 v2 v3 v4 v5 v6 v7 v8 v9 : Value} (d : decode cc pc = .ok (.getfield 45, 3)) (hg : vAt n g k (.inr (2, [v0, v1, v2, v3, v4, v5, v6, v7, v8, v9]))) (kk : vV p l e R s m args below meth c nL z0 D cells slots Q n ad g (pc + 3) L (v8 :: st)) : vV p l e R s m args below meth c nL z0 D cells slots Q n ad g pc L (.ref (ad k) :: st) := v_get (fi := 8) X d inU_X2 wf_X2_45 rfl (by decide) rfl hg rfl kk
theorem pf_X2_45 (X : vCx p s m args c cc RX2 nL z0 D cy) {v0 v1 v2 v3 v4 v5 v6 v7 v8 v9 : Value} {x : Int32} (d : decode cc pc = .ok (.putfield 45, 3)) (hg : vAt n g k (.inr (2, [v0, v1, v2, v3, v4, v5, v6, v7, v8, v9]))) (kk : vV p l e R s m args below meth c nL z0 D cells slots Q n ad (va_up g k (.inr (2, [v0, v1, v2, v3, v4, v5, v6, v7, .int x, v9]))) (pc + 3) L st) : vV p l e R s m args below meth c nL z0 D cells slots Q n ad g pc L (.int x :: .ref (ad k) :: st) := v_put (fi := 8) (ty := .int) X d inU_X2 wf_X2_45 tyX2_ok nmX2 rfl (by decide) rfl rfl (by decide +kernel) hg rfl rfl (Nat.le_of_ble_eq_true rfl) kk
theorem gf_X2_48 (X : vCx p s m args c cc RX2 nL z0 D cy) {v0 v1 v2 v3 v4 v5 v6 v7 v8 v9 : Value} (d : decode cc pc = .ok (.getfield 48, 3)) (hg : vAt n g k (.inr (2, [v0, v1, v2, v3, v4, v5, v6, v7, v8, v9]))) (kk : vV p l e R s m args below meth c nL z0 D cells slots Q n ad g (pc + 3) L (v9 :: st)) : vV p l e R s m args below meth c nL z0 D cells slots Q n ad g pc L (.ref (ad k) :: st) := v_get (fi := 9) X d inU_X2 wf_X2_48 rfl (by decide) rfl hg rfl kk
theorem pf_X2_48 (X : vCx p s m args c cc RX2 nL z0 D cy) {v0 v1 v2 v3 v4 v5 v6 v7 v8 v9 : Value} {x : Int32} (d : decode cc pc = .ok (.putfield 48, 3)) (hg : vAt n g k (.inr (2, [v0, v1, v2, v3, v4, v5, v6, v7, v8, v9]))) (kk : vV p l e R s m args below meth c nL z0 D cells slots Q n ad (va_up g k (.inr (2, [v0, v1, v2, v3, v4, v5, v6, v7, v8, .int x]))) (pc + 3) L st) : vV p l e R s m args below meth c nL z0 D cells slots Q n ad g pc L (.int x :: .ref (ad k) :: st) := v_put (fi := 9) (ty := .int) X d inU_X2 wf_X2_48 tyX2_ok nmX2 rfl (by decide) rfl rfl (by decide +kernel) hg rfl rfl (Nat.le_of_ble_eq_true rfl) kk
theorem gf_X4_105 (X : vCx p s m args c cc RX4 nL z0 D cy) {v0 v1 v2 v3 v4 v5 v6 v7 v8 v9 : Value} (d : decode cc pc = .ok (.getfield 105, 3)) (hg : vAt n g k (.inr (2, [v0, v1, v2, v3, v4, v5, v6, v7, v8, v9]))) (kk : vV p l e R s m args below meth c nL z0 D cells slots Q n ad g (pc + 3) L (v9 :: st)) : vV p l e R s m args below meth c nL z0 D cells slots Q n ad g pc L (.ref (ad k) :: st) := v_get (fi := 9) X d inU_X2 wf_X4_105 rfl (by decide) rfl hg rfl kk
theorem pf_X4_105 (X : vCx p s m args c cc RX4 nL z0 D cy) {v0 v1 v2 v3 v4 v5 v6 v7 v8 v9 : Value} {x : Int32} (d : decode cc pc = .ok (.putfield 105, 3)) (hg : vAt n g k (.inr (2, [v0, v1, v2, v3, v4, v5, v6, v7, v8, v9]))) (kk : vV p l e R s m args below meth c nL z0 D cells slots Q n ad (va_up g k (.inr (2, [v0, v1, v2, v3, v4, v5, v6, v7, v8, .int x]))) (pc + 3) L st) : vV p l e R s m args below meth c nL z0 D cells slots Q n ad g pc L (.int x :: .ref (ad k) :: st) := v_put (fi := 9) (ty := .int) X d inU_X2 wf_X4_105 tyX2_ok nmX2 rfl (by decide) rfl rfl (by decide +kernel) hg rfl rfl (Nat.le_of_ble_eq_true rfl) kk
theorem gf_X4_10 (X : vCx p s m args c cc RX4 nL z0 D cy) {v0 v1 v2 : Value} (d : decode cc pc = .ok (.getfield 10, 3)) (hg : vAt n g k (.inr (4, [v0, v1, v2]))) (kk : vV p l e R s m args below meth c nL z0 D cells slots Q n ad g (pc + 3) L (v0 :: st)) : vV p l e R s m args below meth c nL z0 D cells slots Q n ad g pc L (.ref (ad k) :: st) := v_get (fi := 0) X d inU_X4 wf_X4_10 rfl (by decide) rfl hg rfl kk
theorem pf_X4_10 (X : vCx p s m args c cc RX4 nL z0 D cy) (hini : meth.name = "<init>") {v0 v1 v2 : Value} {x : Nat} (d : decode cc pc = .ok (.putfield 10, 3)) (hg : vAt n g k (.inr (4, [v0, v1, v2]))) (kk : vV p l e R s m args below meth c nL z0 D cells slots Q n ad (va_up g k (.inr (4, [.ref x, v1, v2]))) (pc + 3) L st) : vV p l e R s m args below meth c nL z0 D cells slots Q n ad g pc L (.ref x :: .ref (ad k) :: st) := v_putF (fi := 0) (ty := (.object "RoofWater$Weather")) X d inU_X4 wf_X4_10 tyX4_ok nmX4 rfl (by decide) rfl rfl hini rfl (by decide +kernel) hg rfl rfl (Nat.le_of_ble_eq_true rfl) kk
theorem gf_X4_21 (X : vCx p s m args c cc RX4 nL z0 D cy) {v0 v1 v2 : Value} (d : decode cc pc = .ok (.getfield 21, 3)) (hg : vAt n g k (.inr (4, [v0, v1, v2]))) (kk : vV p l e R s m args below meth c nL z0 D cells slots Q n ad g (pc + 3) L (v1 :: st)) : vV p l e R s m args below meth c nL z0 D cells slots Q n ad g pc L (.ref (ad k) :: st) := v_get (fi := 1) X d inU_X4 wf_X4_21 rfl (by decide) rfl hg rfl kk
theorem pf_X4_21 (X : vCx p s m args c cc RX4 nL z0 D cy) (hini : meth.name = "<init>") {v0 v1 v2 : Value} {x : Nat} (d : decode cc pc = .ok (.putfield 21, 3)) (hg : vAt n g k (.inr (4, [v0, v1, v2]))) (kk : vV p l e R s m args below meth c nL z0 D cells slots Q n ad (va_up g k (.inr (4, [v0, .ref x, v2]))) (pc + 3) L st) : vV p l e R s m args below meth c nL z0 D cells slots Q n ad g pc L (.ref x :: .ref (ad k) :: st) := v_putF (fi := 1) (ty := (.object "RoofWater$Village")) X d inU_X4 wf_X4_21 tyX4_ok nmX4 rfl (by decide) rfl rfl hini rfl (by decide +kernel) hg rfl rfl (Nat.le_of_ble_eq_true rfl) kk
theorem gf_X4_25 (X : vCx p s m args c cc RX4 nL z0 D cy) {v0 v1 v2 : Value} (d : decode cc pc = .ok (.getfield 25, 3)) (hg : vAt n g k (.inr (4, [v0, v1, v2]))) (kk : vV p l e R s m args below meth c nL z0 D cells slots Q n ad g (pc + 3) L (v2 :: st)) : vV p l e R s m args below meth c nL z0 D cells slots Q n ad g pc L (.ref (ad k) :: st) := v_get (fi := 2) X d inU_X4 wf_X4_25 rfl (by decide) rfl hg rfl kk
theorem pf_X4_25 (X : vCx p s m args c cc RX4 nL z0 D cy) (hini : meth.name = "<init>") {v0 v1 v2 : Value} {x : Nat} (d : decode cc pc = .ok (.putfield 25, 3)) (hg : vAt n g k (.inr (4, [v0, v1, v2]))) (kk : vV p l e R s m args below meth c nL z0 D cells slots Q n ad (va_up g k (.inr (4, [v0, v1, .ref x]))) (pc + 3) L st) : vV p l e R s m args below meth c nL z0 D cells slots Q n ad g pc L (.ref x :: .ref (ad k) :: st) := v_putF (fi := 2) (ty := (.object "RoofWater$Village")) X d inU_X4 wf_X4_25 tyX4_ok nmX4 rfl (by decide) rfl rfl hini rfl (by decide +kernel) hg rfl rfl (Nat.le_of_ble_eq_true rfl) kk
theorem gf_X6_9 (X : vCx p s m args c cc RX6 nL z0 D cy) {v0 v1 v2 v3 v4 v5 v6 v7 v8 : Value} (d : decode cc pc = .ok (.getfield 9, 3)) (hg : vAt n g k (.inr (6, [v0, v1, v2, v3, v4, v5, v6, v7, v8]))) (kk : vV p l e R s m args below meth c nL z0 D cells slots Q n ad g (pc + 3) L (v0 :: st)) : vV p l e R s m args below meth c nL z0 D cells slots Q n ad g pc L (.ref (ad k) :: st) := v_get (fi := 0) X d inU_X6 wf_X6_9 rfl (by decide) rfl hg rfl kk
theorem pf_X6_9 (X : vCx p s m args c cc RX6 nL z0 D cy) {v0 v1 v2 v3 v4 v5 v6 v7 v8 : Value} {x : Nat} (d : decode cc pc = .ok (.putfield 9, 3)) (hg : vAt n g k (.inr (6, [v0, v1, v2, v3, v4, v5, v6, v7, v8]))) (kk : vV p l e R s m args below meth c nL z0 D cells slots Q n ad (va_up g k (.inr (6, [.ref x, v1, v2, v3, v4, v5, v6, v7, v8]))) (pc + 3) L st) : vV p l e R s m args below meth c nL z0 D cells slots Q n ad g pc L (.ref x :: .ref (ad k) :: st) := v_put (fi := 0) (ty := (.array (.array .int))) X d inU_X6 wf_X6_9 tyX6_ok nmX6 rfl (by decide) rfl rfl (by decide +kernel) hg rfl rfl (Nat.le_of_ble_eq_true rfl) kk
theorem gf_L_22 (X : vCx p s m args c cc RL nL z0 D cy) {v0 v1 v2 v3 v4 v5 v6 v7 v8 : Value} (d : decode cc pc = .ok (.getfield 22, 3)) (hg : vAt n g k (.inr (6, [v0, v1, v2, v3, v4, v5, v6, v7, v8]))) (kk : vV p l e R s m args below meth c nL z0 D cells slots Q n ad g (pc + 3) L (v0 :: st)) : vV p l e R s m args below meth c nL z0 D cells slots Q n ad g pc L (.ref (ad k) :: st) := v_get (fi := 0) X d inU_X6 wf_L_22 rfl (by decide) rfl hg rfl kk
theorem pf_L_22 (X : vCx p s m args c cc RL nL z0 D cy) {v0 v1 v2 v3 v4 v5 v6 v7 v8 : Value} {x : Nat} (d : decode cc pc = .ok (.putfield 22, 3)) (hg : vAt n g k (.inr (6, [v0, v1, v2, v3, v4, v5, v6, v7, v8]))) (kk : vV p l e R s m args below meth c nL z0 D cells slots Q n ad (va_up g k (.inr (6, [.ref x, v1, v2, v3, v4, v5, v6, v7, v8]))) (pc + 3) L st) : vV p l e R s m args below meth c nL z0 D cells slots Q n ad g pc L (.ref x :: .ref (ad k) :: st) := v_put (fi := 0) (ty := (.array (.array .int))) X d inU_X6 wf_L_22 tyX6_ok nmX6 rfl (by decide) rfl rfl (by decide +kernel) hg rfl rfl (Nat.le_of_ble_eq_true rfl) kk
theorem gf_X6_16 (X : vCx p s m args c cc RX6 nL z0 D cy) {v0 v1 v2 v3 v4 v5 v6 v7 v8 : Value} (d : decode cc pc = .ok (.getfield 16, 3)) (hg : vAt n g k (.inr (6, [v0, v1, v2, v3, v4, v5, v6, v7, v8]))) (kk : vV p l e R s m args below meth c nL z0 D cells slots Q n ad g (pc + 3) L (v1 :: st)) : vV p l e R s m args below meth c nL z0 D cells slots Q n ad g pc L (.ref (ad k) :: st) := v_get (fi := 1) X d inU_X6 wf_X6_16 rfl (by decide) rfl hg rfl kk
theorem pf_X6_16 (X : vCx p s m args c cc RX6 nL z0 D cy) {v0 v1 v2 v3 v4 v5 v6 v7 v8 : Value} {x : Nat} (d : decode cc pc = .ok (.putfield 16, 3)) (hg : vAt n g k (.inr (6, [v0, v1, v2, v3, v4, v5, v6, v7, v8]))) (kk : vV p l e R s m args below meth c nL z0 D cells slots Q n ad (va_up g k (.inr (6, [v0, .ref x, v2, v3, v4, v5, v6, v7, v8]))) (pc + 3) L st) : vV p l e R s m args below meth c nL z0 D cells slots Q n ad g pc L (.ref x :: .ref (ad k) :: st) := v_put (fi := 1) (ty := (.array (.object "RoofWaterLaw$House"))) X d inU_X6 wf_X6_16 tyX6_ok nmX6 rfl (by decide) rfl rfl (by decide +kernel) hg rfl rfl (Nat.le_of_ble_eq_true rfl) kk
theorem gf_L_43 (X : vCx p s m args c cc RL nL z0 D cy) {v0 v1 v2 v3 v4 v5 v6 v7 v8 : Value} (d : decode cc pc = .ok (.getfield 43, 3)) (hg : vAt n g k (.inr (6, [v0, v1, v2, v3, v4, v5, v6, v7, v8]))) (kk : vV p l e R s m args below meth c nL z0 D cells slots Q n ad g (pc + 3) L (v1 :: st)) : vV p l e R s m args below meth c nL z0 D cells slots Q n ad g pc L (.ref (ad k) :: st) := v_get (fi := 1) X d inU_X6 wf_L_43 rfl (by decide) rfl hg rfl kk
theorem pf_L_43 (X : vCx p s m args c cc RL nL z0 D cy) {v0 v1 v2 v3 v4 v5 v6 v7 v8 : Value} {x : Nat} (d : decode cc pc = .ok (.putfield 43, 3)) (hg : vAt n g k (.inr (6, [v0, v1, v2, v3, v4, v5, v6, v7, v8]))) (kk : vV p l e R s m args below meth c nL z0 D cells slots Q n ad (va_up g k (.inr (6, [v0, .ref x, v2, v3, v4, v5, v6, v7, v8]))) (pc + 3) L st) : vV p l e R s m args below meth c nL z0 D cells slots Q n ad g pc L (.ref x :: .ref (ad k) :: st) := v_put (fi := 1) (ty := (.array (.object "RoofWaterLaw$House"))) X d inU_X6 wf_L_43 tyX6_ok nmX6 rfl (by decide) rfl rfl (by decide +kernel) hg rfl rfl (Nat.le_of_ble_eq_true rfl) kk
theorem gf_X6_22 (X : vCx p s m args c cc RX6 nL z0 D cy) {v0 v1 v2 v3 v4 v5 v6 v7 v8 : Value} (d : decode cc pc = .ok (.getfield 22, 3)) (hg : vAt n g k (.inr (6, [v0, v1, v2, v3, v4, v5, v6, v7, v8]))) (kk : vV p l e R s m args below meth c nL z0 D cells slots Q n ad g (pc + 3) L (v2 :: st)) : vV p l e R s m args below meth c nL z0 D cells slots Q n ad g pc L (.ref (ad k) :: st) := v_get (fi := 2) X d inU_X6 wf_X6_22 rfl (by decide) rfl hg rfl kk
theorem pf_X6_22 (X : vCx p s m args c cc RX6 nL z0 D cy) {v0 v1 v2 v3 v4 v5 v6 v7 v8 : Value} {x : Nat} (d : decode cc pc = .ok (.putfield 22, 3)) (hg : vAt n g k (.inr (6, [v0, v1, v2, v3, v4, v5, v6, v7, v8]))) (kk : vV p l e R s m args below meth c nL z0 D cells slots Q n ad (va_up g k (.inr (6, [v0, v1, .ref x, v3, v4, v5, v6, v7, v8]))) (pc + 3) L st) : vV p l e R s m args below meth c nL z0 D cells slots Q n ad g pc L (.ref x :: .ref (ad k) :: st) := v_put (fi := 2) (ty := (.array (.array .int))) X d inU_X6 wf_X6_22 tyX6_ok nmX6 rfl (by decide) rfl rfl (by decide +kernel) hg rfl rfl (Nat.le_of_ble_eq_true rfl) kk
theorem gf_L_81 (X : vCx p s m args c cc RL nL z0 D cy) {v0 v1 v2 v3 v4 v5 v6 v7 v8 : Value} (d : decode cc pc = .ok (.getfield 81, 3)) (hg : vAt n g k (.inr (6, [v0, v1, v2, v3, v4, v5, v6, v7, v8]))) (kk : vV p l e R s m args below meth c nL z0 D cells slots Q n ad g (pc + 3) L (v2 :: st)) : vV p l e R s m args below meth c nL z0 D cells slots Q n ad g pc L (.ref (ad k) :: st) := v_get (fi := 2) X d inU_X6 wf_L_81 rfl (by decide) rfl hg rfl kk
theorem pf_L_81 (X : vCx p s m args c cc RL nL z0 D cy) {v0 v1 v2 v3 v4 v5 v6 v7 v8 : Value} {x : Nat} (d : decode cc pc = .ok (.putfield 81, 3)) (hg : vAt n g k (.inr (6, [v0, v1, v2, v3, v4, v5, v6, v7, v8]))) (kk : vV p l e R s m args below meth c nL z0 D cells slots Q n ad (va_up g k (.inr (6, [v0, v1, .ref x, v3, v4, v5, v6, v7, v8]))) (pc + 3) L st) : vV p l e R s m args below meth c nL z0 D cells slots Q n ad g pc L (.ref x :: .ref (ad k) :: st) := v_put (fi := 2) (ty := (.array (.array .int))) X d inU_X6 wf_L_81 tyX6_ok nmX6 rfl (by decide) rfl rfl (by decide +kernel) hg rfl rfl (Nat.le_of_ble_eq_true rfl) kk
theorem gf_X6_25 (X : vCx p s m args c cc RX6 nL z0 D cy) {v0 v1 v2 v3 v4 v5 v6 v7 v8 : Value} (d : decode cc pc = .ok (.getfield 25, 3)) (hg : vAt n g k (.inr (6, [v0, v1, v2, v3, v4, v5, v6, v7, v8]))) (kk : vV p l e R s m args below meth c nL z0 D cells slots Q n ad g (pc + 3) L (v3 :: st)) : vV p l e R s m args below meth c nL z0 D cells slots Q n ad g pc L (.ref (ad k) :: st) := v_get (fi := 3) X d inU_X6 wf_X6_25 rfl (by decide) rfl hg rfl kk
theorem pf_X6_25 (X : vCx p s m args c cc RX6 nL z0 D cy) {v0 v1 v2 v3 v4 v5 v6 v7 v8 : Value} {x : Nat} (d : decode cc pc = .ok (.putfield 25, 3)) (hg : vAt n g k (.inr (6, [v0, v1, v2, v3, v4, v5, v6, v7, v8]))) (kk : vV p l e R s m args below meth c nL z0 D cells slots Q n ad (va_up g k (.inr (6, [v0, v1, v2, .ref x, v4, v5, v6, v7, v8]))) (pc + 3) L st) : vV p l e R s m args below meth c nL z0 D cells slots Q n ad g pc L (.ref x :: .ref (ad k) :: st) := v_put (fi := 3) (ty := (.array (.array .int))) X d inU_X6 wf_X6_25 tyX6_ok nmX6 rfl (by decide) rfl rfl (by decide +kernel) hg rfl rfl (Nat.le_of_ble_eq_true rfl) kk
theorem gf_L_121 (X : vCx p s m args c cc RL nL z0 D cy) {v0 v1 v2 v3 v4 v5 v6 v7 v8 : Value} (d : decode cc pc = .ok (.getfield 121, 3)) (hg : vAt n g k (.inr (6, [v0, v1, v2, v3, v4, v5, v6, v7, v8]))) (kk : vV p l e R s m args below meth c nL z0 D cells slots Q n ad g (pc + 3) L (v4 :: st)) : vV p l e R s m args below meth c nL z0 D cells slots Q n ad g pc L (.ref (ad k) :: st) := v_get (fi := 4) X d inU_X6 wf_L_121 rfl (by decide) rfl hg rfl kk
theorem pf_L_121 (X : vCx p s m args c cc RL nL z0 D cy) {v0 v1 v2 v3 v4 v5 v6 v7 v8 : Value} {x : Int32} (d : decode cc pc = .ok (.putfield 121, 3)) (hg : vAt n g k (.inr (6, [v0, v1, v2, v3, v4, v5, v6, v7, v8]))) (kk : vV p l e R s m args below meth c nL z0 D cells slots Q n ad (va_up g k (.inr (6, [v0, v1, v2, v3, .int x, v5, v6, v7, v8]))) (pc + 3) L st) : vV p l e R s m args below meth c nL z0 D cells slots Q n ad g pc L (.int x :: .ref (ad k) :: st) := v_put (fi := 4) (ty := .int) X d inU_X6 wf_L_121 tyX6_ok nmX6 rfl (by decide) rfl rfl (by decide +kernel) hg rfl rfl (Nat.le_of_ble_eq_true rfl) kk
theorem gf_X6_37 (X : vCx p s m args c cc RX6 nL z0 D cy) {v0 v1 v2 v3 v4 v5 v6 v7 v8 : Value} (d : decode cc pc = .ok (.getfield 37, 3)) (hg : vAt n g k (.inr (6, [v0, v1, v2, v3, v4, v5, v6, v7, v8]))) (kk : vV p l e R s m args below meth c nL z0 D cells slots Q n ad g (pc + 3) L (v4 :: st)) : vV p l e R s m args below meth c nL z0 D cells slots Q n ad g pc L (.ref (ad k) :: st) := v_get (fi := 4) X d inU_X6 wf_X6_37 rfl (by decide) rfl hg rfl kk
theorem pf_X6_37 (X : vCx p s m args c cc RX6 nL z0 D cy) {v0 v1 v2 v3 v4 v5 v6 v7 v8 : Value} {x : Int32} (d : decode cc pc = .ok (.putfield 37, 3)) (hg : vAt n g k (.inr (6, [v0, v1, v2, v3, v4, v5, v6, v7, v8]))) (kk : vV p l e R s m args below meth c nL z0 D cells slots Q n ad (va_up g k (.inr (6, [v0, v1, v2, v3, .int x, v5, v6, v7, v8]))) (pc + 3) L st) : vV p l e R s m args below meth c nL z0 D cells slots Q n ad g pc L (.int x :: .ref (ad k) :: st) := v_put (fi := 4) (ty := .int) X d inU_X6 wf_X6_37 tyX6_ok nmX6 rfl (by decide) rfl rfl (by decide +kernel) hg rfl rfl (Nat.le_of_ble_eq_true rfl) kk
theorem gf_X6_83 (X : vCx p s m args c cc RX6 nL z0 D cy) {v0 v1 v2 v3 v4 v5 v6 v7 v8 : Value} (d : decode cc pc = .ok (.getfield 83, 3)) (hg : vAt n g k (.inr (6, [v0, v1, v2, v3, v4, v5, v6, v7, v8]))) (kk : vV p l e R s m args below meth c nL z0 D cells slots Q n ad g (pc + 3) L (v5 :: st)) : vV p l e R s m args below meth c nL z0 D cells slots Q n ad g pc L (.ref (ad k) :: st) := v_get (fi := 5) X d inU_X6 wf_X6_83 rfl (by decide) rfl hg rfl kk
theorem pf_X6_83 (X : vCx p s m args c cc RX6 nL z0 D cy) {v0 v1 v2 v3 v4 v5 v6 v7 v8 : Value} {x : Int32} (d : decode cc pc = .ok (.putfield 83, 3)) (hg : vAt n g k (.inr (6, [v0, v1, v2, v3, v4, v5, v6, v7, v8]))) (kk : vV p l e R s m args below meth c nL z0 D cells slots Q n ad (va_up g k (.inr (6, [v0, v1, v2, v3, v4, .int x, v6, v7, v8]))) (pc + 3) L st) : vV p l e R s m args below meth c nL z0 D cells slots Q n ad g pc L (.int x :: .ref (ad k) :: st) := v_put (fi := 5) (ty := .int) X d inU_X6 wf_X6_83 tyX6_ok nmX6 rfl (by decide) rfl rfl (by decide +kernel) hg rfl rfl (Nat.le_of_ble_eq_true rfl) kk
theorem gf_X6_41 (X : vCx p s m args c cc RX6 nL z0 D cy) {v0 v1 v2 v3 v4 v5 v6 v7 v8 : Value} (d : decode cc pc = .ok (.getfield 41, 3)) (hg : vAt n g k (.inr (6, [v0, v1, v2, v3, v4, v5, v6, v7, v8]))) (kk : vV p l e R s m args below meth c nL z0 D cells slots Q n ad g (pc + 3) L (v6 :: st)) : vV p l e R s m args below meth c nL z0 D cells slots Q n ad g pc L (.ref (ad k) :: st) := v_get (fi := 6) X d inU_X6 wf_X6_41 rfl (by decide) rfl hg rfl kk
theorem pf_X6_41 (X : vCx p s m args c cc RX6 nL z0 D cy) {v0 v1 v2 v3 v4 v5 v6 v7 v8 : Value} {x : Int32} (d : decode cc pc = .ok (.putfield 41, 3)) (hg : vAt n g k (.inr (6, [v0, v1, v2, v3, v4, v5, v6, v7, v8]))) (kk : vV p l e R s m args below meth c nL z0 D cells slots Q n ad (va_up g k (.inr (6, [v0, v1, v2, v3, v4, v5, .int x, v7, v8]))) (pc + 3) L st) : vV p l e R s m args below meth c nL z0 D cells slots Q n ad g pc L (.int x :: .ref (ad k) :: st) := v_put (fi := 6) (ty := .int) X d inU_X6 wf_X6_41 tyX6_ok nmX6 rfl (by decide) rfl rfl (by decide +kernel) hg rfl rfl (Nat.le_of_ble_eq_true rfl) kk
theorem gf_X6_92 (X : vCx p s m args c cc RX6 nL z0 D cy) {v0 v1 v2 v3 v4 v5 v6 v7 v8 : Value} (d : decode cc pc = .ok (.getfield 92, 3)) (hg : vAt n g k (.inr (6, [v0, v1, v2, v3, v4, v5, v6, v7, v8]))) (kk : vV p l e R s m args below meth c nL z0 D cells slots Q n ad g (pc + 3) L (v7 :: st)) : vV p l e R s m args below meth c nL z0 D cells slots Q n ad g pc L (.ref (ad k) :: st) := v_get (fi := 7) X d inU_X6 wf_X6_92 rfl (by decide) rfl hg rfl kk
theorem pf_X6_92 (X : vCx p s m args c cc RX6 nL z0 D cy) {v0 v1 v2 v3 v4 v5 v6 v7 v8 : Value} {x : Int32} (d : decode cc pc = .ok (.putfield 92, 3)) (hg : vAt n g k (.inr (6, [v0, v1, v2, v3, v4, v5, v6, v7, v8]))) (kk : vV p l e R s m args below meth c nL z0 D cells slots Q n ad (va_up g k (.inr (6, [v0, v1, v2, v3, v4, v5, v6, .int x, v8]))) (pc + 3) L st) : vV p l e R s m args below meth c nL z0 D cells slots Q n ad g pc L (.int x :: .ref (ad k) :: st) := v_put (fi := 7) (ty := .int) X d inU_X6 wf_X6_92 tyX6_ok nmX6 rfl (by decide) rfl rfl (by decide +kernel) hg rfl rfl (Nat.le_of_ble_eq_true rfl) kk
theorem gf_L_66 (X : vCx p s m args c cc RL nL z0 D cy) {v0 v1 v2 v3 v4 v5 v6 v7 v8 : Value} (d : decode cc pc = .ok (.getfield 66, 3)) (hg : vAt n g k (.inr (6, [v0, v1, v2, v3, v4, v5, v6, v7, v8]))) (kk : vV p l e R s m args below meth c nL z0 D cells slots Q n ad g (pc + 3) L (v8 :: st)) : vV p l e R s m args below meth c nL z0 D cells slots Q n ad g pc L (.ref (ad k) :: st) := v_get (fi := 8) X d inU_X6 wf_L_66 rfl (by decide) rfl hg rfl kk
theorem pf_L_66 (X : vCx p s m args c cc RL nL z0 D cy) {v0 v1 v2 v3 v4 v5 v6 v7 v8 : Value} {x : Int32} (d : decode cc pc = .ok (.putfield 66, 3)) (hg : vAt n g k (.inr (6, [v0, v1, v2, v3, v4, v5, v6, v7, v8]))) (kk : vV p l e R s m args below meth c nL z0 D cells slots Q n ad (va_up g k (.inr (6, [v0, v1, v2, v3, v4, v5, v6, v7, .int x]))) (pc + 3) L st) : vV p l e R s m args below meth c nL z0 D cells slots Q n ad g pc L (.int x :: .ref (ad k) :: st) := v_put (fi := 8) (ty := .int) X d inU_X6 wf_L_66 tyX6_ok nmX6 rfl (by decide) rfl rfl (by decide +kernel) hg rfl rfl (Nat.le_of_ble_eq_true rfl) kk
theorem gf_X6_119 (X : vCx p s m args c cc RX6 nL z0 D cy) {v0 v1 v2 v3 v4 v5 v6 v7 v8 : Value} (d : decode cc pc = .ok (.getfield 119, 3)) (hg : vAt n g k (.inr (6, [v0, v1, v2, v3, v4, v5, v6, v7, v8]))) (kk : vV p l e R s m args below meth c nL z0 D cells slots Q n ad g (pc + 3) L (v8 :: st)) : vV p l e R s m args below meth c nL z0 D cells slots Q n ad g pc L (.ref (ad k) :: st) := v_get (fi := 8) X d inU_X6 wf_X6_119 rfl (by decide) rfl hg rfl kk
theorem pf_X6_119 (X : vCx p s m args c cc RX6 nL z0 D cy) {v0 v1 v2 v3 v4 v5 v6 v7 v8 : Value} {x : Int32} (d : decode cc pc = .ok (.putfield 119, 3)) (hg : vAt n g k (.inr (6, [v0, v1, v2, v3, v4, v5, v6, v7, v8]))) (kk : vV p l e R s m args below meth c nL z0 D cells slots Q n ad (va_up g k (.inr (6, [v0, v1, v2, v3, v4, v5, v6, v7, .int x]))) (pc + 3) L st) : vV p l e R s m args below meth c nL z0 D cells slots Q n ad g pc L (.int x :: .ref (ad k) :: st) := v_put (fi := 8) (ty := .int) X d inU_X6 wf_X6_119 tyX6_ok nmX6 rfl (by decide) rfl rfl (by decide +kernel) hg rfl rfl (Nat.le_of_ble_eq_true rfl) kk
theorem gf_X6_45 (X : vCx p s m args c cc RX6 nL z0 D cy) {v0 v1 v2 v3 v4 v5 v6 v7 v8 v9 : Value} (d : decode cc pc = .ok (.getfield 45, 3)) (hg : vAt n g k (.inr (5, [v0, v1, v2, v3, v4, v5, v6, v7, v8, v9]))) (kk : vV p l e R s m args below meth c nL z0 D cells slots Q n ad g (pc + 3) L (v0 :: st)) : vV p l e R s m args below meth c nL z0 D cells slots Q n ad g pc L (.ref (ad k) :: st) := v_get (fi := 0) X d inU_X5 wf_X6_45 rfl (by decide) rfl hg rfl kk
theorem pf_X6_45 (X : vCx p s m args c cc RX6 nL z0 D cy) {v0 v1 v2 v3 v4 v5 v6 v7 v8 v9 : Value} {x : Int32} (d : decode cc pc = .ok (.putfield 45, 3)) (hg : vAt n g k (.inr (5, [v0, v1, v2, v3, v4, v5, v6, v7, v8, v9]))) (kk : vV p l e R s m args below meth c nL z0 D cells slots Q n ad (va_up g k (.inr (5, [.int x, v1, v2, v3, v4, v5, v6, v7, v8, v9]))) (pc + 3) L st) : vV p l e R s m args below meth c nL z0 D cells slots Q n ad g pc L (.int x :: .ref (ad k) :: st) := v_put (fi := 0) (ty := .int) X d inU_X5 wf_X6_45 tyX5_ok nmX5 rfl (by decide) rfl rfl (by decide +kernel) hg rfl rfl (Nat.le_of_ble_eq_true rfl) kk
theorem gf_X6_48 (X : vCx p s m args c cc RX6 nL z0 D cy) {v0 v1 v2 v3 v4 v5 v6 v7 v8 v9 : Value} (d : decode cc pc = .ok (.getfield 48, 3)) (hg : vAt n g k (.inr (5, [v0, v1, v2, v3, v4, v5, v6, v7, v8, v9]))) (kk : vV p l e R s m args below meth c nL z0 D cells slots Q n ad g (pc + 3) L (v1 :: st)) : vV p l e R s m args below meth c nL z0 D cells slots Q n ad g pc L (.ref (ad k) :: st) := v_get (fi := 1) X d inU_X5 wf_X6_48 rfl (by decide) rfl hg rfl kk
theorem pf_X6_48 (X : vCx p s m args c cc RX6 nL z0 D cy) {v0 v1 v2 v3 v4 v5 v6 v7 v8 v9 : Value} {x : Int32} (d : decode cc pc = .ok (.putfield 48, 3)) (hg : vAt n g k (.inr (5, [v0, v1, v2, v3, v4, v5, v6, v7, v8, v9]))) (kk : vV p l e R s m args below meth c nL z0 D cells slots Q n ad (va_up g k (.inr (5, [v0, .int x, v2, v3, v4, v5, v6, v7, v8, v9]))) (pc + 3) L st) : vV p l e R s m args below meth c nL z0 D cells slots Q n ad g pc L (.int x :: .ref (ad k) :: st) := v_put (fi := 1) (ty := .int) X d inU_X5 wf_X6_48 tyX5_ok nmX5 rfl (by decide) rfl rfl (by decide +kernel) hg rfl rfl (Nat.le_of_ble_eq_true rfl) kk
theorem gf_X6_68 (X : vCx p s m args c cc RX6 nL z0 D cy) {v0 v1 v2 v3 v4 v5 v6 v7 v8 v9 : Value} (d : decode cc pc = .ok (.getfield 68, 3)) (hg : vAt n g k (.inr (5, [v0, v1, v2, v3, v4, v5, v6, v7, v8, v9]))) (kk : vV p l e R s m args below meth c nL z0 D cells slots Q n ad g (pc + 3) L (v2 :: st)) : vV p l e R s m args below meth c nL z0 D cells slots Q n ad g pc L (.ref (ad k) :: st) := v_get (fi := 2) X d inU_X5 wf_X6_68 rfl (by decide) rfl hg rfl kk
theorem pf_X6_68 (X : vCx p s m args c cc RX6 nL z0 D cy) {v0 v1 v2 v3 v4 v5 v6 v7 v8 v9 : Value} {x : Int32} (d : decode cc pc = .ok (.putfield 68, 3)) (hg : vAt n g k (.inr (5, [v0, v1, v2, v3, v4, v5, v6, v7, v8, v9]))) (kk : vV p l e R s m args below meth c nL z0 D cells slots Q n ad (va_up g k (.inr (5, [v0, v1, .int x, v3, v4, v5, v6, v7, v8, v9]))) (pc + 3) L st) : vV p l e R s m args below meth c nL z0 D cells slots Q n ad g pc L (.int x :: .ref (ad k) :: st) := v_put (fi := 2) (ty := .int) X d inU_X5 wf_X6_68 tyX5_ok nmX5 rfl (by decide) rfl rfl (by decide +kernel) hg rfl rfl (Nat.le_of_ble_eq_true rfl) kk
theorem gf_X6_51 (X : vCx p s m args c cc RX6 nL z0 D cy) {v0 v1 v2 v3 v4 v5 v6 v7 v8 v9 : Value} (d : decode cc pc = .ok (.getfield 51, 3)) (hg : vAt n g k (.inr (5, [v0, v1, v2, v3, v4, v5, v6, v7, v8, v9]))) (kk : vV p l e R s m args below meth c nL z0 D cells slots Q n ad g (pc + 3) L (v3 :: st)) : vV p l e R s m args below meth c nL z0 D cells slots Q n ad g pc L (.ref (ad k) :: st) := v_get (fi := 3) X d inU_X5 wf_X6_51 rfl (by decide) rfl hg rfl kk
theorem pf_X6_51 (X : vCx p s m args c cc RX6 nL z0 D cy) {v0 v1 v2 v3 v4 v5 v6 v7 v8 v9 : Value} {x : Int32} (d : decode cc pc = .ok (.putfield 51, 3)) (hg : vAt n g k (.inr (5, [v0, v1, v2, v3, v4, v5, v6, v7, v8, v9]))) (kk : vV p l e R s m args below meth c nL z0 D cells slots Q n ad (va_up g k (.inr (5, [v0, v1, v2, .int x, v4, v5, v6, v7, v8, v9]))) (pc + 3) L st) : vV p l e R s m args below meth c nL z0 D cells slots Q n ad g pc L (.int x :: .ref (ad k) :: st) := v_put (fi := 3) (ty := .int) X d inU_X5 wf_X6_51 tyX5_ok nmX5 rfl (by decide) rfl rfl (by decide +kernel) hg rfl rfl (Nat.le_of_ble_eq_true rfl) kk
theorem gf_L_88 (X : vCx p s m args c cc RL nL z0 D cy) {v0 v1 v2 v3 v4 v5 v6 v7 v8 v9 : Value} (d : decode cc pc = .ok (.getfield 88, 3)) (hg : vAt n g k (.inr (5, [v0, v1, v2, v3, v4, v5, v6, v7, v8, v9]))) (kk : vV p l e R s m args below meth c nL z0 D cells slots Q n ad g (pc + 3) L (v3 :: st)) : vV p l e R s m args below meth c nL z0 D cells slots Q n ad g pc L (.ref (ad k) :: st) := v_get (fi := 3) X d inU_X5 wf_L_88 rfl (by decide) rfl hg rfl kk
theorem pf_L_88 (X : vCx p s m args c cc RL nL z0 D cy) {v0 v1 v2 v3 v4 v5 v6 v7 v8 v9 : Value} {x : Int32} (d : decode cc pc = .ok (.putfield 88, 3)) (hg : vAt n g k (.inr (5, [v0, v1, v2, v3, v4, v5, v6, v7, v8, v9]))) (kk : vV p l e R s m args below meth c nL z0 D cells slots Q n ad (va_up g k (.inr (5, [v0, v1, v2, .int x, v4, v5, v6, v7, v8, v9]))) (pc + 3) L st) : vV p l e R s m args below meth c nL z0 D cells slots Q n ad g pc L (.int x :: .ref (ad k) :: st) := v_put (fi := 3) (ty := .int) X d inU_X5 wf_L_88 tyX5_ok nmX5 rfl (by decide) rfl rfl (by decide +kernel) hg rfl rfl (Nat.le_of_ble_eq_true rfl) kk
theorem gf_X6_54 (X : vCx p s m args c cc RX6 nL z0 D cy) {v0 v1 v2 v3 v4 v5 v6 v7 v8 v9 : Value} (d : decode cc pc = .ok (.getfield 54, 3)) (hg : vAt n g k (.inr (5, [v0, v1, v2, v3, v4, v5, v6, v7, v8, v9]))) (kk : vV p l e R s m args below meth c nL z0 D cells slots Q n ad g (pc + 3) L (v4 :: st)) : vV p l e R s m args below meth c nL z0 D cells slots Q n ad g pc L (.ref (ad k) :: st) := v_get (fi := 4) X d inU_X5 wf_X6_54 rfl (by decide) rfl hg rfl kk
theorem pf_X6_54 (X : vCx p s m args c cc RX6 nL z0 D cy) {v0 v1 v2 v3 v4 v5 v6 v7 v8 v9 : Value} {x : Int32} (d : decode cc pc = .ok (.putfield 54, 3)) (hg : vAt n g k (.inr (5, [v0, v1, v2, v3, v4, v5, v6, v7, v8, v9]))) (kk : vV p l e R s m args below meth c nL z0 D cells slots Q n ad (va_up g k (.inr (5, [v0, v1, v2, v3, .int x, v5, v6, v7, v8, v9]))) (pc + 3) L st) : vV p l e R s m args below meth c nL z0 D cells slots Q n ad g pc L (.int x :: .ref (ad k) :: st) := v_put (fi := 4) (ty := .int) X d inU_X5 wf_X6_54 tyX5_ok nmX5 rfl (by decide) rfl rfl (by decide +kernel) hg rfl rfl (Nat.le_of_ble_eq_true rfl) kk
theorem gf_L_75 (X : vCx p s m args c cc RL nL z0 D cy) {v0 v1 v2 v3 v4 v5 v6 v7 v8 v9 : Value} (d : decode cc pc = .ok (.getfield 75, 3)) (hg : vAt n g k (.inr (5, [v0, v1, v2, v3, v4, v5, v6, v7, v8, v9]))) (kk : vV p l e R s m args below meth c nL z0 D cells slots Q n ad g (pc + 3) L (v5 :: st)) : vV p l e R s m args below meth c nL z0 D cells slots Q n ad g pc L (.ref (ad k) :: st) := v_get (fi := 5) X d inU_X5 wf_L_75 rfl (by decide) rfl hg rfl kk
theorem pf_L_75 (X : vCx p s m args c cc RL nL z0 D cy) {v0 v1 v2 v3 v4 v5 v6 v7 v8 v9 : Value} {x : Int32} (d : decode cc pc = .ok (.putfield 75, 3)) (hg : vAt n g k (.inr (5, [v0, v1, v2, v3, v4, v5, v6, v7, v8, v9]))) (kk : vV p l e R s m args below meth c nL z0 D cells slots Q n ad (va_up g k (.inr (5, [v0, v1, v2, v3, v4, .int x, v6, v7, v8, v9]))) (pc + 3) L st) : vV p l e R s m args below meth c nL z0 D cells slots Q n ad g pc L (.int x :: .ref (ad k) :: st) := v_put (fi := 5) (ty := .int) X d inU_X5 wf_L_75 tyX5_ok nmX5 rfl (by decide) rfl rfl (by decide +kernel) hg rfl rfl (Nat.le_of_ble_eq_true rfl) kk
theorem gf_X6_80 (X : vCx p s m args c cc RX6 nL z0 D cy) {v0 v1 v2 v3 v4 v5 v6 v7 v8 v9 : Value} (d : decode cc pc = .ok (.getfield 80, 3)) (hg : vAt n g k (.inr (5, [v0, v1, v2, v3, v4, v5, v6, v7, v8, v9]))) (kk : vV p l e R s m args below meth c nL z0 D cells slots Q n ad g (pc + 3) L (v5 :: st)) : vV p l e R s m args below meth c nL z0 D cells slots Q n ad g pc L (.ref (ad k) :: st) := v_get (fi := 5) X d inU_X5 wf_X6_80 rfl (by decide) rfl hg rfl kk
theorem pf_X6_80 (X : vCx p s m args c cc RX6 nL z0 D cy) {v0 v1 v2 v3 v4 v5 v6 v7 v8 v9 : Value} {x : Int32} (d : decode cc pc = .ok (.putfield 80, 3)) (hg : vAt n g k (.inr (5, [v0, v1, v2, v3, v4, v5, v6, v7, v8, v9]))) (kk : vV p l e R s m args below meth c nL z0 D cells slots Q n ad (va_up g k (.inr (5, [v0, v1, v2, v3, v4, .int x, v6, v7, v8, v9]))) (pc + 3) L st) : vV p l e R s m args below meth c nL z0 D cells slots Q n ad g pc L (.int x :: .ref (ad k) :: st) := v_put (fi := 5) (ty := .int) X d inU_X5 wf_X6_80 tyX5_ok nmX5 rfl (by decide) rfl rfl (by decide +kernel) hg rfl rfl (Nat.le_of_ble_eq_true rfl) kk
theorem gf_X5_7 (X : vCx p s m args c cc RX5 nL z0 D cy) {v0 v1 v2 v3 v4 v5 v6 v7 v8 v9 : Value} (d : decode cc pc = .ok (.getfield 7, 3)) (hg : vAt n g k (.inr (5, [v0, v1, v2, v3, v4, v5, v6, v7, v8, v9]))) (kk : vV p l e R s m args below meth c nL z0 D cells slots Q n ad g (pc + 3) L (v6 :: st)) : vV p l e R s m args below meth c nL z0 D cells slots Q n ad g pc L (.ref (ad k) :: st) := v_get (fi := 6) X d inU_X5 wf_X5_7 rfl (by decide) rfl hg rfl kk
theorem pf_X5_7 (X : vCx p s m args c cc RX5 nL z0 D cy) {v0 v1 v2 v3 v4 v5 v6 v7 v8 v9 : Value} {x : Int32} (d : decode cc pc = .ok (.putfield 7, 3)) (hg : vAt n g k (.inr (5, [v0, v1, v2, v3, v4, v5, v6, v7, v8, v9]))) (kk : vV p l e R s m args below meth c nL z0 D cells slots Q n ad (va_up g k (.inr (5, [v0, v1, v2, v3, v4, v5, .int x, v7, v8, v9]))) (pc + 3) L st) : vV p l e R s m args below meth c nL z0 D cells slots Q n ad g pc L (.int x :: .ref (ad k) :: st) := v_put (fi := 6) (ty := .int) X d inU_X5 wf_X5_7 tyX5_ok nmX5 rfl (by decide) rfl rfl (by decide +kernel) hg rfl rfl (Nat.le_of_ble_eq_true rfl) kk
theorem gf_L_47 (X : vCx p s m args c cc RL nL z0 D cy) {v0 v1 v2 v3 v4 v5 v6 v7 v8 v9 : Value} (d : decode cc pc = .ok (.getfield 47, 3)) (hg : vAt n g k (.inr (5, [v0, v1, v2, v3, v4, v5, v6, v7, v8, v9]))) (kk : vV p l e R s m args below meth c nL z0 D cells slots Q n ad g (pc + 3) L (v6 :: st)) : vV p l e R s m args below meth c nL z0 D cells slots Q n ad g pc L (.ref (ad k) :: st) := v_get (fi := 6) X d inU_X5 wf_L_47 rfl (by decide) rfl hg rfl kk
theorem pf_L_47 (X : vCx p s m args c cc RL nL z0 D cy) {v0 v1 v2 v3 v4 v5 v6 v7 v8 v9 : Value} {x : Int32} (d : decode cc pc = .ok (.putfield 47, 3)) (hg : vAt n g k (.inr (5, [v0, v1, v2, v3, v4, v5, v6, v7, v8, v9]))) (kk : vV p l e R s m args below meth c nL z0 D cells slots Q n ad (va_up g k (.inr (5, [v0, v1, v2, v3, v4, v5, .int x, v7, v8, v9]))) (pc + 3) L st) : vV p l e R s m args below meth c nL z0 D cells slots Q n ad g pc L (.int x :: .ref (ad k) :: st) := v_put (fi := 6) (ty := .int) X d inU_X5 wf_L_47 tyX5_ok nmX5 rfl (by decide) rfl rfl (by decide +kernel) hg rfl rfl (Nat.le_of_ble_eq_true rfl) kk
theorem gf_X6_57 (X : vCx p s m args c cc RX6 nL z0 D cy) {v0 v1 v2 v3 v4 v5 v6 v7 v8 v9 : Value} (d : decode cc pc = .ok (.getfield 57, 3)) (hg : vAt n g k (.inr (5, [v0, v1, v2, v3, v4, v5, v6, v7, v8, v9]))) (kk : vV p l e R s m args below meth c nL z0 D cells slots Q n ad g (pc + 3) L (v6 :: st)) : vV p l e R s m args below meth c nL z0 D cells slots Q n ad g pc L (.ref (ad k) :: st) := v_get (fi := 6) X d inU_X5 wf_X6_57 rfl (by decide) rfl hg rfl kk
theorem pf_X6_57 (X : vCx p s m args c cc RX6 nL z0 D cy) {v0 v1 v2 v3 v4 v5 v6 v7 v8 v9 : Value} {x : Int32} (d : decode cc pc = .ok (.putfield 57, 3)) (hg : vAt n g k (.inr (5, [v0, v1, v2, v3, v4, v5, v6, v7, v8, v9]))) (kk : vV p l e R s m args below meth c nL z0 D cells slots Q n ad (va_up g k (.inr (5, [v0, v1, v2, v3, v4, v5, .int x, v7, v8, v9]))) (pc + 3) L st) : vV p l e R s m args below meth c nL z0 D cells slots Q n ad g pc L (.int x :: .ref (ad k) :: st) := v_put (fi := 6) (ty := .int) X d inU_X5 wf_X6_57 tyX5_ok nmX5 rfl (by decide) rfl rfl (by decide +kernel) hg rfl rfl (Nat.le_of_ble_eq_true rfl) kk
theorem gf_X6_86 (X : vCx p s m args c cc RX6 nL z0 D cy) {v0 v1 v2 v3 v4 v5 v6 v7 v8 v9 : Value} (d : decode cc pc = .ok (.getfield 86, 3)) (hg : vAt n g k (.inr (5, [v0, v1, v2, v3, v4, v5, v6, v7, v8, v9]))) (kk : vV p l e R s m args below meth c nL z0 D cells slots Q n ad g (pc + 3) L (v7 :: st)) : vV p l e R s m args below meth c nL z0 D cells slots Q n ad g pc L (.ref (ad k) :: st) := v_get (fi := 7) X d inU_X5 wf_X6_86 rfl (by decide) rfl hg rfl kk
theorem pf_X6_86 (X : vCx p s m args c cc RX6 nL z0 D cy) {v0 v1 v2 v3 v4 v5 v6 v7 v8 v9 : Value} {x : Int32} (d : decode cc pc = .ok (.putfield 86, 3)) (hg : vAt n g k (.inr (5, [v0, v1, v2, v3, v4, v5, v6, v7, v8, v9]))) (kk : vV p l e R s m args below meth c nL z0 D cells slots Q n ad (va_up g k (.inr (5, [v0, v1, v2, v3, v4, v5, v6, .int x, v8, v9]))) (pc + 3) L st) : vV p l e R s m args below meth c nL z0 D cells slots Q n ad g pc L (.int x :: .ref (ad k) :: st) := v_put (fi := 7) (ty := .int) X d inU_X5 wf_X6_86 tyX5_ok nmX5 rfl (by decide) rfl rfl (by decide +kernel) hg rfl rfl (Nat.le_of_ble_eq_true rfl) kk
theorem gf_X6_95 (X : vCx p s m args c cc RX6 nL z0 D cy) {v0 v1 v2 v3 v4 v5 v6 v7 v8 v9 : Value} (d : decode cc pc = .ok (.getfield 95, 3)) (hg : vAt n g k (.inr (5, [v0, v1, v2, v3, v4, v5, v6, v7, v8, v9]))) (kk : vV p l e R s m args below meth c nL z0 D cells slots Q n ad g (pc + 3) L (v8 :: st)) : vV p l e R s m args below meth c nL z0 D cells slots Q n ad g pc L (.ref (ad k) :: st) := v_get (fi := 8) X d inU_X5 wf_X6_95 rfl (by decide) rfl hg rfl kk
theorem pf_X6_95 (X : vCx p s m args c cc RX6 nL z0 D cy) {v0 v1 v2 v3 v4 v5 v6 v7 v8 v9 : Value} {x : Int32} (d : decode cc pc = .ok (.putfield 95, 3)) (hg : vAt n g k (.inr (5, [v0, v1, v2, v3, v4, v5, v6, v7, v8, v9]))) (kk : vV p l e R s m args below meth c nL z0 D cells slots Q n ad (va_up g k (.inr (5, [v0, v1, v2, v3, v4, v5, v6, v7, .int x, v9]))) (pc + 3) L st) : vV p l e R s m args below meth c nL z0 D cells slots Q n ad g pc L (.int x :: .ref (ad k) :: st) := v_put (fi := 8) (ty := .int) X d inU_X5 wf_X6_95 tyX5_ok nmX5 rfl (by decide) rfl rfl (by decide +kernel) hg rfl rfl (Nat.le_of_ble_eq_true rfl) kk
theorem gf_X6_89 (X : vCx p s m args c cc RX6 nL z0 D cy) {v0 v1 v2 v3 v4 v5 v6 v7 v8 v9 : Value} (d : decode cc pc = .ok (.getfield 89, 3)) (hg : vAt n g k (.inr (5, [v0, v1, v2, v3, v4, v5, v6, v7, v8, v9]))) (kk : vV p l e R s m args below meth c nL z0 D cells slots Q n ad g (pc + 3) L (v9 :: st)) : vV p l e R s m args below meth c nL z0 D cells slots Q n ad g pc L (.ref (ad k) :: st) := v_get (fi := 9) X d inU_X5 wf_X6_89 rfl (by decide) rfl hg rfl kk
theorem pf_X6_89 (X : vCx p s m args c cc RX6 nL z0 D cy) {v0 v1 v2 v3 v4 v5 v6 v7 v8 v9 : Value} {x : Int32} (d : decode cc pc = .ok (.putfield 89, 3)) (hg : vAt n g k (.inr (5, [v0, v1, v2, v3, v4, v5, v6, v7, v8, v9]))) (kk : vV p l e R s m args below meth c nL z0 D cells slots Q n ad (va_up g k (.inr (5, [v0, v1, v2, v3, v4, v5, v6, v7, v8, .int x]))) (pc + 3) L st) : vV p l e R s m args below meth c nL z0 D cells slots Q n ad g pc L (.int x :: .ref (ad k) :: st) := v_put (fi := 9) (ty := .int) X d inU_X5 wf_X6_89 tyX5_ok nmX5 rfl (by decide) rfl rfl (by decide +kernel) hg rfl rfl (Nat.le_of_ble_eq_true rfl) kk
theorem cl_L_94 (X : vCx p s m args c cc RL nL z0 D cy) {P : CtP} {rm : Room} {mc ms : Nat} (d : decode cc pc = .ok (.invokespecial 94, 3)) (hM : CtG l yX4_init cX4_init 1 none rm z0 D cy n ad g [.ref (ad k)] P mc ms) (hst : (st.map fun v => v.category).sum ≤ 8) (hR : rm.cells = mc ∧ rm.slots = ms ∧ rm.frames + 1 ≤ R.frames ∧ 8 + (1 + 11) + rm.locals ≤ R.locals ∧ cells + mc ≤ R.cells ∧ slots + ms ≤ R.slots) (kk : ∀ (r : Option Value) (n' : Nat) (ad' : Nat → Nat) (g' : Nat → va_E), P r n' ad' g' → vV p l e R s m args below meth c nL z0 D (cells + mc) (slots + ms) Q n' ad' g' (pc + 3) L (r.toList ++ st)) : vV p l e R s m args below meth c nL z0 D cells slots Q n ad g pc L (.ref (ad k) :: st) := v_callI (As := []) X wm_L_94 wi_X4_init wz_X4 wc_X4_init rfl ⟨by decide, by decide, (show (parseMethodDescriptor yX4_init.desc).map (fun d => d.parameters.length) = some 0 from by decide +kernel)⟩ d hM rfl hst hR kk
theorem cd_L_94 (X : vCx p s m args c cc RL nL z0 D cy) {g' : Nat → va_E} {fr lo : Nat} (d : decode cc pc = .ok (.invokespecial 94, 3)) (hM : Ct0 l yX4_init cX4_init 1 none fr lo z0 D cy n ad g [.ref (ad k)] none g') (hst : (st.map fun v => v.category).sum ≤ 8) (hR : fr + 1 ≤ R.frames ∧ 8 + (1 + 11) + lo ≤ R.locals ∧ cells ≤ R.cells ∧ slots ≤ R.slots) (kk : vV p l e R s m args below meth c nL z0 D cells slots Q n ad g' (pc + 3) L st) : vV p l e R s m args below meth c nL z0 D cells slots Q n ad g pc L (.ref (ad k) :: st) := cl_L_94 X d hM hst ⟨rfl, rfl, hR.1, hR.2.1, hR.2.2.1, hR.2.2.2⟩ (fun r1 n1 ad1 g1 hP => by
  obtain ⟨rfl, rfl, rfl, rfl⟩ := hP
  exact kk)
theorem cl_X4_18 (X : vCx p s m args c cc RX4 nL z0 D cy) {a1 : Value} {P : CtP} {rm : Room} {mc ms : Nat} (d : decode cc pc = .ok (.invokespecial 18, 3)) (hM : CtG l yX2_init cX2_init 3 none rm z0 D cy n ad g [.ref (ad k), a1] P mc ms) (hst : (st.map fun v => v.category).sum ≤ 8) (hR : rm.cells = mc ∧ rm.slots = ms ∧ rm.frames + 1 ≤ R.frames ∧ 8 + (3 + 11) + rm.locals ≤ R.locals ∧ cells + mc ≤ R.cells ∧ slots + ms ≤ R.slots) (kk : ∀ (r : Option Value) (n' : Nat) (ad' : Nat → Nat) (g' : Nat → va_E), P r n' ad' g' → vV p l e R s m args below meth c nL z0 D (cells + mc) (slots + ms) Q n' ad' g' (pc + 3) L (r.toList ++ st)) : vV p l e R s m args below meth c nL z0 D cells slots Q n ad g pc L (a1 :: .ref (ad k) :: st) := v_callI (As := [a1]) X wm_X4_18 wi_X2_init wz_X2 wc_X2_init rfl ⟨by decide, by decide, (show (parseMethodDescriptor yX2_init.desc).map (fun d => d.parameters.length) = some 1 from by decide +kernel)⟩ d hM rfl hst hR kk
theorem cd_X4_18 (X : vCx p s m args c cc RX4 nL z0 D cy) {a1 : Value} {g' : Nat → va_E} {fr lo : Nat} (d : decode cc pc = .ok (.invokespecial 18, 3)) (hM : Ct0 l yX2_init cX2_init 3 none fr lo z0 D cy n ad g [.ref (ad k), a1] none g') (hst : (st.map fun v => v.category).sum ≤ 8) (hR : fr + 1 ≤ R.frames ∧ 8 + (3 + 11) + lo ≤ R.locals ∧ cells ≤ R.cells ∧ slots ≤ R.slots) (kk : vV p l e R s m args below meth c nL z0 D cells slots Q n ad g' (pc + 3) L st) : vV p l e R s m args below meth c nL z0 D cells slots Q n ad g pc L (a1 :: .ref (ad k) :: st) := cl_X4_18 X d hM hst ⟨rfl, rfl, hR.1, hR.2.1, hR.2.2.1, hR.2.2.2⟩ (fun r1 n1 ad1 g1 hP => by
  obtain ⟨rfl, rfl, rfl, rfl⟩ := hP
  exact kk)
theorem cl_L_103 (X : vCx p s m args c cc RL nL z0 D cy) {a1 a2 : Value} {P : CtP} {rm : Room} {mc ms : Nat} (d : decode cc pc = .ok (.invokevirtual 103, 3)) (hM : CtG l yX4_house cX4_house 3 (some FieldType.int) rm z0 D cy n ad g [.ref (ad k), a1, a2] P mc ms) {e1 : va_E} (hrecv : vAt n g k e1) {fs : List Value} (he : e1 = .inr (4, fs)) (hst : (st.map fun v => v.category).sum ≤ 8) (hR : rm.cells = mc ∧ rm.slots = ms ∧ rm.frames + 1 ≤ R.frames ∧ 8 + (3 + 11) + rm.locals ≤ R.locals ∧ cells + mc ≤ R.cells ∧ slots + ms ≤ R.slots) (kk : ∀ (r : Option Value) (n' : Nat) (ad' : Nat → Nat) (g' : Nat → va_E), P r n' ad' g' → vV p l e R s m args below meth c nL z0 D (cells + mc) (slots + ms) Q n' ad' g' (pc + 3) L (r.toList ++ st)) : vV p l e R s m args below meth c nL z0 D cells slots Q n ad g pc L (a2 :: a1 :: .ref (ad k) :: st) := v_callV (As := [a1, a2]) X wm_L_103 wi_X4_house ws_X4_house wz_X4 wc_X4_house ⟨rfl, by decide, by decide, (show (parseMethodDescriptor yX4_house.desc).map (fun d => d.parameters.length) = some 2 from by decide +kernel)⟩ rfl d hM (he ▸ hrecv) rfl hst hR kk
theorem cd_L_103 (X : vCx p s m args c cc RL nL z0 D cy) {a1 a2 : Value} {r : Int32} {g' : Nat → va_E} {fr lo : Nat} (d : decode cc pc = .ok (.invokevirtual 103, 3)) (hM : Ct0 l yX4_house cX4_house 3 (some FieldType.int) fr lo z0 D cy n ad g [.ref (ad k), a1, a2] (some (.int r)) g') {e1 : va_E} (hrecv : vAt n g k e1) {fs : List Value} (he : e1 = .inr (4, fs)) (hst : (st.map fun v => v.category).sum ≤ 8) (hR : fr + 1 ≤ R.frames ∧ 8 + (3 + 11) + lo ≤ R.locals ∧ cells ≤ R.cells ∧ slots ≤ R.slots) (kk : vV p l e R s m args below meth c nL z0 D cells slots Q n ad g' (pc + 3) L (.int r :: st)) : vV p l e R s m args below meth c nL z0 D cells slots Q n ad g pc L (a2 :: a1 :: .ref (ad k) :: st) := cl_L_103 X d hM hrecv he hst ⟨rfl, rfl, hR.1, hR.2.1, hR.2.2.1, hR.2.2.2⟩ (fun r1 n1 ad1 g1 hP => by
  obtain ⟨rfl, rfl, rfl, rfl⟩ := hP
  exact kk)
theorem cl_X4_58 (X : vCx p s m args c cc RX4 nL z0 D cy) {a1 : Value} {P : CtP} {rm : Room} {mc ms : Nat} (d : decode cc pc = .ok (.invokevirtual 58, 3)) (hM : CtG l yX4_needHouse cX4_needHouse 2 none rm z0 D cy n ad g [.ref (ad k), a1] P mc ms) {e1 : va_E} (hrecv : vAt n g k e1) {fs : List Value} (he : e1 = .inr (4, fs)) (hst : (st.map fun v => v.category).sum ≤ 8) (hR : rm.cells = mc ∧ rm.slots = ms ∧ rm.frames + 1 ≤ R.frames ∧ 8 + (2 + 11) + rm.locals ≤ R.locals ∧ cells + mc ≤ R.cells ∧ slots + ms ≤ R.slots) (kk : ∀ (r : Option Value) (n' : Nat) (ad' : Nat → Nat) (g' : Nat → va_E), P r n' ad' g' → vV p l e R s m args below meth c nL z0 D (cells + mc) (slots + ms) Q n' ad' g' (pc + 3) L (r.toList ++ st)) : vV p l e R s m args below meth c nL z0 D cells slots Q n ad g pc L (a1 :: .ref (ad k) :: st) := v_callV (As := [a1]) X wm_X4_58 wi_X4_needHouse ws_X4_needHouse wz_X4 wc_X4_needHouse ⟨rfl, by decide, by decide, (show (parseMethodDescriptor yX4_needHouse.desc).map (fun d => d.parameters.length) = some 1 from by decide +kernel)⟩ rfl d hM (he ▸ hrecv) rfl hst hR kk
theorem cd_X4_58 (X : vCx p s m args c cc RX4 nL z0 D cy) {a1 : Value} {g' : Nat → va_E} {fr lo : Nat} (d : decode cc pc = .ok (.invokevirtual 58, 3)) (hM : Ct0 l yX4_needHouse cX4_needHouse 2 none fr lo z0 D cy n ad g [.ref (ad k), a1] none g') {e1 : va_E} (hrecv : vAt n g k e1) {fs : List Value} (he : e1 = .inr (4, fs)) (hst : (st.map fun v => v.category).sum ≤ 8) (hR : fr + 1 ≤ R.frames ∧ 8 + (2 + 11) + lo ≤ R.locals ∧ cells ≤ R.cells ∧ slots ≤ R.slots) (kk : vV p l e R s m args below meth c nL z0 D cells slots Q n ad g' (pc + 3) L st) : vV p l e R s m args below meth c nL z0 D cells slots Q n ad g pc L (a1 :: .ref (ad k) :: st) := cl_X4_58 X d hM hrecv he hst ⟨rfl, rfl, hR.1, hR.2.1, hR.2.2.1, hR.2.2.2⟩ (fun r1 n1 ad1 g1 hP => by
  obtain ⟨rfl, rfl, rfl, rfl⟩ := hP
  exact kk)
theorem cl_X4_62 (X : vCx p s m args c cc RX4 nL z0 D cy) {a1 : Value} {P : CtP} {rm : Room} {mc ms : Nat} (d : decode cc pc = .ok (.invokevirtual 62, 3)) (hM : CtG l yX2_hasHouse cX2_hasHouse 2 (some FieldType.boolean) rm z0 D cy n ad g [.ref (ad k), a1] P mc ms) {e1 : va_E} (hrecv : vAt n g k e1) {fs : List Value} (he : e1 = .inr (2, fs)) (hst : (st.map fun v => v.category).sum ≤ 8) (hR : rm.cells = mc ∧ rm.slots = ms ∧ rm.frames + 1 ≤ R.frames ∧ 8 + (2 + 11) + rm.locals ≤ R.locals ∧ cells + mc ≤ R.cells ∧ slots + ms ≤ R.slots) (kk : ∀ (r : Option Value) (n' : Nat) (ad' : Nat → Nat) (g' : Nat → va_E), P r n' ad' g' → vV p l e R s m args below meth c nL z0 D (cells + mc) (slots + ms) Q n' ad' g' (pc + 3) L (r.toList ++ st)) : vV p l e R s m args below meth c nL z0 D cells slots Q n ad g pc L (a1 :: .ref (ad k) :: st) := v_callV (As := [a1]) X wm_X4_62 wi_X2_hasHouse ws_X2_hasHouse wz_X2 wc_X2_hasHouse ⟨rfl, by decide, by decide, (show (parseMethodDescriptor yX2_hasHouse.desc).map (fun d => d.parameters.length) = some 1 from by decide +kernel)⟩ rfl d hM (he ▸ hrecv) rfl hst hR kk
theorem cd_X4_62 (X : vCx p s m args c cc RX4 nL z0 D cy) {a1 : Value} {r : Int32} {g' : Nat → va_E} {fr lo : Nat} (d : decode cc pc = .ok (.invokevirtual 62, 3)) (hM : Ct0 l yX2_hasHouse cX2_hasHouse 2 (some FieldType.boolean) fr lo z0 D cy n ad g [.ref (ad k), a1] (some (.int r)) g') {e1 : va_E} (hrecv : vAt n g k e1) {fs : List Value} (he : e1 = .inr (2, fs)) (hst : (st.map fun v => v.category).sum ≤ 8) (hR : fr + 1 ≤ R.frames ∧ 8 + (2 + 11) + lo ≤ R.locals ∧ cells ≤ R.cells ∧ slots ≤ R.slots) (kk : vV p l e R s m args below meth c nL z0 D cells slots Q n ad g' (pc + 3) L (.int r :: st)) : vV p l e R s m args below meth c nL z0 D cells slots Q n ad g pc L (a1 :: .ref (ad k) :: st) := cl_X4_62 X d hM hrecv he hst ⟨rfl, rfl, hR.1, hR.2.1, hR.2.2.1, hR.2.2.2⟩ (fun r1 n1 ad1 g1 hP => by
  obtain ⟨rfl, rfl, rfl, rfl⟩ := hP
  exact kk)
theorem cl_X4_28 (X : vCx p s m args c cc RX4 nL z0 D cy) {a1 a2 a3 : Value} {P : CtP} {rm : Room} {mc ms : Nat} (d : decode cc pc = .ok (.invokestatic 28, 3)) (hM : CtG l yX4_isWithin cX4_isWithin 3 (some FieldType.boolean) rm z0 D cy n ad g [a1, a2, a3] P mc ms) (hst : (st.map fun v => v.category).sum ≤ 8) (hR : rm.cells = mc ∧ rm.slots = ms ∧ rm.frames + 1 ≤ R.frames ∧ 8 + (3 + 11) + rm.locals ≤ R.locals ∧ cells + mc ≤ R.cells ∧ slots + ms ≤ R.slots) (kk : ∀ (r : Option Value) (n' : Nat) (ad' : Nat → Nat) (g' : Nat → va_E), P r n' ad' g' → vV p l e R s m args below meth c nL z0 D (cells + mc) (slots + ms) Q n' ad' g' (pc + 3) L (r.toList ++ st)) : vV p l e R s m args below meth c nL z0 D cells slots Q n ad g pc L (a3 :: a2 :: a1 :: st) := v_callS (As := [a1, a2, a3]) X wm_X4_28 wt_X4_isWithin wz_X4 wc_X4_isWithin ⟨by decide, by decide, (show (parseMethodDescriptor yX4_isWithin.desc).map (fun d => d.parameters.length) = some 3 from by decide +kernel)⟩ d hM rfl hst hR kk
theorem cd_X4_28 (X : vCx p s m args c cc RX4 nL z0 D cy) {a1 a2 a3 : Value} {r : Int32} {g' : Nat → va_E} {fr lo : Nat} (d : decode cc pc = .ok (.invokestatic 28, 3)) (hM : Ct0 l yX4_isWithin cX4_isWithin 3 (some FieldType.boolean) fr lo z0 D cy n ad g [a1, a2, a3] (some (.int r)) g') (hst : (st.map fun v => v.category).sum ≤ 8) (hR : fr + 1 ≤ R.frames ∧ 8 + (3 + 11) + lo ≤ R.locals ∧ cells ≤ R.cells ∧ slots ≤ R.slots) (kk : vV p l e R s m args below meth c nL z0 D cells slots Q n ad g' (pc + 3) L (.int r :: st)) : vV p l e R s m args below meth c nL z0 D cells slots Q n ad g pc L (a3 :: a2 :: a1 :: st) := cl_X4_28 X d hM hst ⟨rfl, rfl, hR.1, hR.2.1, hR.2.2.1, hR.2.2.2⟩ (fun r1 n1 ad1 g1 hP => by
  obtain ⟨rfl, rfl, rfl, rfl⟩ := hP
  exact kk)
theorem cl_X4_32 (X : vCx p s m args c cc RX4 nL z0 D cy) {a1 : Value} {P : CtP} {rm : Room} {mc ms : Nat} (d : decode cc pc = .ok (.invokestatic 32, 3)) (hM : CtG l yX4_needIndex cX4_needIndex 1 none rm z0 D cy n ad g [a1] P mc ms) (hst : (st.map fun v => v.category).sum ≤ 8) (hR : rm.cells = mc ∧ rm.slots = ms ∧ rm.frames + 1 ≤ R.frames ∧ 8 + (1 + 11) + rm.locals ≤ R.locals ∧ cells + mc ≤ R.cells ∧ slots + ms ≤ R.slots) (kk : ∀ (r : Option Value) (n' : Nat) (ad' : Nat → Nat) (g' : Nat → va_E), P r n' ad' g' → vV p l e R s m args below meth c nL z0 D (cells + mc) (slots + ms) Q n' ad' g' (pc + 3) L (r.toList ++ st)) : vV p l e R s m args below meth c nL z0 D cells slots Q n ad g pc L (a1 :: st) := v_callS (As := [a1]) X wm_X4_32 wt_X4_needIndex wz_X4 wc_X4_needIndex ⟨by decide, by decide, (show (parseMethodDescriptor yX4_needIndex.desc).map (fun d => d.parameters.length) = some 1 from by decide +kernel)⟩ d hM rfl hst hR kk
theorem cd_X4_32 (X : vCx p s m args c cc RX4 nL z0 D cy) {a1 : Value} {g' : Nat → va_E} {fr lo : Nat} (d : decode cc pc = .ok (.invokestatic 32, 3)) (hM : Ct0 l yX4_needIndex cX4_needIndex 1 none fr lo z0 D cy n ad g [a1] none g') (hst : (st.map fun v => v.category).sum ≤ 8) (hR : fr + 1 ≤ R.frames ∧ 8 + (1 + 11) + lo ≤ R.locals ∧ cells ≤ R.cells ∧ slots ≤ R.slots) (kk : vV p l e R s m args below meth c nL z0 D cells slots Q n ad g' (pc + 3) L st) : vV p l e R s m args below meth c nL z0 D cells slots Q n ad g pc L (a1 :: st) := cl_X4_32 X d hM hst ⟨rfl, rfl, hR.1, hR.2.1, hR.2.2.1, hR.2.2.2⟩ (fun r1 n1 ad1 g1 hP => by
  obtain ⟨rfl, rfl, rfl, rfl⟩ := hP
  exact kk)
theorem cl_X4_115 (X : vCx p s m args c cc RX4 nL z0 D cy) {a1 : Value} {P : CtP} {rm : Room} {mc ms : Nat} (d : decode cc pc = .ok (.invokevirtual 115, 3)) (hM : CtG l yX0_fact cX0_fact 2 (some FieldType.int) rm z0 D cy n ad g [.ref (ad k), a1] P mc ms) {e1 : va_E} (hrecv : vAt n g k e1) {fs : List Value} (he : e1 = .inr (0, fs)) (hst : (st.map fun v => v.category).sum ≤ 8) (hR : rm.cells = mc ∧ rm.slots = ms ∧ rm.frames + 1 ≤ R.frames ∧ 8 + (2 + 11) + rm.locals ≤ R.locals ∧ cells + mc ≤ R.cells ∧ slots + ms ≤ R.slots) (kk : ∀ (r : Option Value) (n' : Nat) (ad' : Nat → Nat) (g' : Nat → va_E), P r n' ad' g' → vV p l e R s m args below meth c nL z0 D (cells + mc) (slots + ms) Q n' ad' g' (pc + 3) L (r.toList ++ st)) : vV p l e R s m args below meth c nL z0 D cells slots Q n ad g pc L (a1 :: .ref (ad k) :: st) := v_callV (As := [a1]) X wm_X4_115 wi_X0_fact ws_X0_fact wz_X0 wc_X0_fact ⟨rfl, by decide, by decide, (show (parseMethodDescriptor yX0_fact.desc).map (fun d => d.parameters.length) = some 1 from by decide +kernel)⟩ rfl d hM (he ▸ hrecv) rfl hst hR kk
theorem cd_X4_115 (X : vCx p s m args c cc RX4 nL z0 D cy) {a1 : Value} {r : Int32} {g' : Nat → va_E} {fr lo : Nat} (d : decode cc pc = .ok (.invokevirtual 115, 3)) (hM : Ct0 l yX0_fact cX0_fact 2 (some FieldType.int) fr lo z0 D cy n ad g [.ref (ad k), a1] (some (.int r)) g') {e1 : va_E} (hrecv : vAt n g k e1) {fs : List Value} (he : e1 = .inr (0, fs)) (hst : (st.map fun v => v.category).sum ≤ 8) (hR : fr + 1 ≤ R.frames ∧ 8 + (2 + 11) + lo ≤ R.locals ∧ cells ≤ R.cells ∧ slots ≤ R.slots) (kk : vV p l e R s m args below meth c nL z0 D cells slots Q n ad g' (pc + 3) L (.int r :: st)) : vV p l e R s m args below meth c nL z0 D cells slots Q n ad g pc L (a1 :: .ref (ad k) :: st) := cl_X4_115 X d hM hrecv he hst ⟨rfl, rfl, hR.1, hR.2.1, hR.2.2.1, hR.2.2.2⟩ (fun r1 n1 ad1 g1 hP => by
  obtain ⟨rfl, rfl, rfl, rfl⟩ := hP
  exact kk)
theorem cl_L_106 (X : vCx p s m args c cc RL nL z0 D cy) {a1 a2 : Value} {P : CtP} {rm : Room} {mc ms : Nat} (d : decode cc pc = .ok (.invokevirtual 106, 3)) (hM : CtG l yX4_pipe cX4_pipe 3 (some FieldType.int) rm z0 D cy n ad g [.ref (ad k), a1, a2] P mc ms) {e1 : va_E} (hrecv : vAt n g k e1) {fs : List Value} (he : e1 = .inr (4, fs)) (hst : (st.map fun v => v.category).sum ≤ 8) (hR : rm.cells = mc ∧ rm.slots = ms ∧ rm.frames + 1 ≤ R.frames ∧ 8 + (3 + 11) + rm.locals ≤ R.locals ∧ cells + mc ≤ R.cells ∧ slots + ms ≤ R.slots) (kk : ∀ (r : Option Value) (n' : Nat) (ad' : Nat → Nat) (g' : Nat → va_E), P r n' ad' g' → vV p l e R s m args below meth c nL z0 D (cells + mc) (slots + ms) Q n' ad' g' (pc + 3) L (r.toList ++ st)) : vV p l e R s m args below meth c nL z0 D cells slots Q n ad g pc L (a2 :: a1 :: .ref (ad k) :: st) := v_callV (As := [a1, a2]) X wm_L_106 wi_X4_pipe ws_X4_pipe wz_X4 wc_X4_pipe ⟨rfl, by decide, by decide, (show (parseMethodDescriptor yX4_pipe.desc).map (fun d => d.parameters.length) = some 2 from by decide +kernel)⟩ rfl d hM (he ▸ hrecv) rfl hst hR kk
theorem cd_L_106 (X : vCx p s m args c cc RL nL z0 D cy) {a1 a2 : Value} {r : Int32} {g' : Nat → va_E} {fr lo : Nat} (d : decode cc pc = .ok (.invokevirtual 106, 3)) (hM : Ct0 l yX4_pipe cX4_pipe 3 (some FieldType.int) fr lo z0 D cy n ad g [.ref (ad k), a1, a2] (some (.int r)) g') {e1 : va_E} (hrecv : vAt n g k e1) {fs : List Value} (he : e1 = .inr (4, fs)) (hst : (st.map fun v => v.category).sum ≤ 8) (hR : fr + 1 ≤ R.frames ∧ 8 + (3 + 11) + lo ≤ R.locals ∧ cells ≤ R.cells ∧ slots ≤ R.slots) (kk : vV p l e R s m args below meth c nL z0 D cells slots Q n ad g' (pc + 3) L (.int r :: st)) : vV p l e R s m args below meth c nL z0 D cells slots Q n ad g pc L (a2 :: a1 :: .ref (ad k) :: st) := cl_L_106 X d hM hrecv he hst ⟨rfl, rfl, hR.1, hR.2.1, hR.2.2.1, hR.2.2.2⟩ (fun r1 n1 ad1 g1 hP => by
  obtain ⟨rfl, rfl, rfl, rfl⟩ := hP
  exact kk)
theorem cl_X4_89 (X : vCx p s m args c cc RX4 nL z0 D cy) {a1 : Value} {P : CtP} {rm : Room} {mc ms : Nat} (d : decode cc pc = .ok (.invokevirtual 89, 3)) (hM : CtG l yX4_needPipe cX4_needPipe 2 none rm z0 D cy n ad g [.ref (ad k), a1] P mc ms) {e1 : va_E} (hrecv : vAt n g k e1) {fs : List Value} (he : e1 = .inr (4, fs)) (hst : (st.map fun v => v.category).sum ≤ 8) (hR : rm.cells = mc ∧ rm.slots = ms ∧ rm.frames + 1 ≤ R.frames ∧ 8 + (2 + 11) + rm.locals ≤ R.locals ∧ cells + mc ≤ R.cells ∧ slots + ms ≤ R.slots) (kk : ∀ (r : Option Value) (n' : Nat) (ad' : Nat → Nat) (g' : Nat → va_E), P r n' ad' g' → vV p l e R s m args below meth c nL z0 D (cells + mc) (slots + ms) Q n' ad' g' (pc + 3) L (r.toList ++ st)) : vV p l e R s m args below meth c nL z0 D cells slots Q n ad g pc L (a1 :: .ref (ad k) :: st) := v_callV (As := [a1]) X wm_X4_89 wi_X4_needPipe ws_X4_needPipe wz_X4 wc_X4_needPipe ⟨rfl, by decide, by decide, (show (parseMethodDescriptor yX4_needPipe.desc).map (fun d => d.parameters.length) = some 1 from by decide +kernel)⟩ rfl d hM (he ▸ hrecv) rfl hst hR kk
theorem cd_X4_89 (X : vCx p s m args c cc RX4 nL z0 D cy) {a1 : Value} {g' : Nat → va_E} {fr lo : Nat} (d : decode cc pc = .ok (.invokevirtual 89, 3)) (hM : Ct0 l yX4_needPipe cX4_needPipe 2 none fr lo z0 D cy n ad g [.ref (ad k), a1] none g') {e1 : va_E} (hrecv : vAt n g k e1) {fs : List Value} (he : e1 = .inr (4, fs)) (hst : (st.map fun v => v.category).sum ≤ 8) (hR : fr + 1 ≤ R.frames ∧ 8 + (2 + 11) + lo ≤ R.locals ∧ cells ≤ R.cells ∧ slots ≤ R.slots) (kk : vV p l e R s m args below meth c nL z0 D cells slots Q n ad g' (pc + 3) L st) : vV p l e R s m args below meth c nL z0 D cells slots Q n ad g pc L (a1 :: .ref (ad k) :: st) := cl_X4_89 X d hM hrecv he hst ⟨rfl, rfl, hR.1, hR.2.1, hR.2.2.1, hR.2.2.2⟩ (fun r1 n1 ad1 g1 hP => by
  obtain ⟨rfl, rfl, rfl, rfl⟩ := hP
  exact kk)
theorem cl_X4_176 (X : vCx p s m args c cc RX4 nL z0 D cy) {a1 : Value} {P : CtP} {rm : Room} {mc ms : Nat} (d : decode cc pc = .ok (.invokevirtual 176, 3)) (hM : CtG l yX2_hasPipe cX2_hasPipe 2 (some FieldType.boolean) rm z0 D cy n ad g [.ref (ad k), a1] P mc ms) {e1 : va_E} (hrecv : vAt n g k e1) {fs : List Value} (he : e1 = .inr (2, fs)) (hst : (st.map fun v => v.category).sum ≤ 8) (hR : rm.cells = mc ∧ rm.slots = ms ∧ rm.frames + 1 ≤ R.frames ∧ 8 + (2 + 11) + rm.locals ≤ R.locals ∧ cells + mc ≤ R.cells ∧ slots + ms ≤ R.slots) (kk : ∀ (r : Option Value) (n' : Nat) (ad' : Nat → Nat) (g' : Nat → va_E), P r n' ad' g' → vV p l e R s m args below meth c nL z0 D (cells + mc) (slots + ms) Q n' ad' g' (pc + 3) L (r.toList ++ st)) : vV p l e R s m args below meth c nL z0 D cells slots Q n ad g pc L (a1 :: .ref (ad k) :: st) := v_callV (As := [a1]) X wm_X4_176 wi_X2_hasPipe ws_X2_hasPipe wz_X2 wc_X2_hasPipe ⟨rfl, by decide, by decide, (show (parseMethodDescriptor yX2_hasPipe.desc).map (fun d => d.parameters.length) = some 1 from by decide +kernel)⟩ rfl d hM (he ▸ hrecv) rfl hst hR kk
theorem cd_X4_176 (X : vCx p s m args c cc RX4 nL z0 D cy) {a1 : Value} {r : Int32} {g' : Nat → va_E} {fr lo : Nat} (d : decode cc pc = .ok (.invokevirtual 176, 3)) (hM : Ct0 l yX2_hasPipe cX2_hasPipe 2 (some FieldType.boolean) fr lo z0 D cy n ad g [.ref (ad k), a1] (some (.int r)) g') {e1 : va_E} (hrecv : vAt n g k e1) {fs : List Value} (he : e1 = .inr (2, fs)) (hst : (st.map fun v => v.category).sum ≤ 8) (hR : fr + 1 ≤ R.frames ∧ 8 + (2 + 11) + lo ≤ R.locals ∧ cells ≤ R.cells ∧ slots ≤ R.slots) (kk : vV p l e R s m args below meth c nL z0 D cells slots Q n ad g' (pc + 3) L (.int r :: st)) : vV p l e R s m args below meth c nL z0 D cells slots Q n ad g pc L (a1 :: .ref (ad k) :: st) := cl_X4_176 X d hM hrecv he hst ⟨rfl, rfl, hR.1, hR.2.1, hR.2.2.1, hR.2.2.2⟩ (fun r1 n1 ad1 g1 hP => by
  obtain ⟨rfl, rfl, rfl, rfl⟩ := hP
  exact kk)
theorem cl_X4_118 (X : vCx p s m args c cc RX4 nL z0 D cy) {a1 : Value} {P : CtP} {rm : Room} {mc ms : Nat} (d : decode cc pc = .ok (.invokevirtual 118, 3)) (hM : CtG l yX1_fact cX1_fact 2 (some FieldType.int) rm z0 D cy n ad g [.ref (ad k), a1] P mc ms) {e1 : va_E} (hrecv : vAt n g k e1) {fs : List Value} (he : e1 = .inr (1, fs)) (hst : (st.map fun v => v.category).sum ≤ 8) (hR : rm.cells = mc ∧ rm.slots = ms ∧ rm.frames + 1 ≤ R.frames ∧ 8 + (2 + 11) + rm.locals ≤ R.locals ∧ cells + mc ≤ R.cells ∧ slots + ms ≤ R.slots) (kk : ∀ (r : Option Value) (n' : Nat) (ad' : Nat → Nat) (g' : Nat → va_E), P r n' ad' g' → vV p l e R s m args below meth c nL z0 D (cells + mc) (slots + ms) Q n' ad' g' (pc + 3) L (r.toList ++ st)) : vV p l e R s m args below meth c nL z0 D cells slots Q n ad g pc L (a1 :: .ref (ad k) :: st) := v_callV (As := [a1]) X wm_X4_118 wi_X1_fact ws_X1_fact wz_X1 wc_X1_fact ⟨rfl, by decide, by decide, (show (parseMethodDescriptor yX1_fact.desc).map (fun d => d.parameters.length) = some 1 from by decide +kernel)⟩ rfl d hM (he ▸ hrecv) rfl hst hR kk
theorem cd_X4_118 (X : vCx p s m args c cc RX4 nL z0 D cy) {a1 : Value} {r : Int32} {g' : Nat → va_E} {fr lo : Nat} (d : decode cc pc = .ok (.invokevirtual 118, 3)) (hM : Ct0 l yX1_fact cX1_fact 2 (some FieldType.int) fr lo z0 D cy n ad g [.ref (ad k), a1] (some (.int r)) g') {e1 : va_E} (hrecv : vAt n g k e1) {fs : List Value} (he : e1 = .inr (1, fs)) (hst : (st.map fun v => v.category).sum ≤ 8) (hR : fr + 1 ≤ R.frames ∧ 8 + (2 + 11) + lo ≤ R.locals ∧ cells ≤ R.cells ∧ slots ≤ R.slots) (kk : vV p l e R s m args below meth c nL z0 D cells slots Q n ad g' (pc + 3) L (.int r :: st)) : vV p l e R s m args below meth c nL z0 D cells slots Q n ad g pc L (a1 :: .ref (ad k) :: st) := cl_X4_118 X d hM hrecv he hst ⟨rfl, rfl, hR.1, hR.2.1, hR.2.2.1, hR.2.2.2⟩ (fun r1 n1 ad1 g1 hP => by
  obtain ⟨rfl, rfl, rfl, rfl⟩ := hP
  exact kk)
theorem cl_L_109 (X : vCx p s m args c cc RL nL z0 D cy) {a1 a2 : Value} {P : CtP} {rm : Room} {mc ms : Nat} (d : decode cc pc = .ok (.invokevirtual 109, 3)) (hM : CtG l yX4_owes cX4_owes 3 (some FieldType.int) rm z0 D cy n ad g [.ref (ad k), a1, a2] P mc ms) {e1 : va_E} (hrecv : vAt n g k e1) {fs : List Value} (he : e1 = .inr (4, fs)) (hst : (st.map fun v => v.category).sum ≤ 8) (hR : rm.cells = mc ∧ rm.slots = ms ∧ rm.frames + 1 ≤ R.frames ∧ 8 + (3 + 11) + rm.locals ≤ R.locals ∧ cells + mc ≤ R.cells ∧ slots + ms ≤ R.slots) (kk : ∀ (r : Option Value) (n' : Nat) (ad' : Nat → Nat) (g' : Nat → va_E), P r n' ad' g' → vV p l e R s m args below meth c nL z0 D (cells + mc) (slots + ms) Q n' ad' g' (pc + 3) L (r.toList ++ st)) : vV p l e R s m args below meth c nL z0 D cells slots Q n ad g pc L (a2 :: a1 :: .ref (ad k) :: st) := v_callV (As := [a1, a2]) X wm_L_109 wi_X4_owes ws_X4_owes wz_X4 wc_X4_owes ⟨rfl, by decide, by decide, (show (parseMethodDescriptor yX4_owes.desc).map (fun d => d.parameters.length) = some 2 from by decide +kernel)⟩ rfl d hM (he ▸ hrecv) rfl hst hR kk
theorem cd_L_109 (X : vCx p s m args c cc RL nL z0 D cy) {a1 a2 : Value} {r : Int32} {g' : Nat → va_E} {fr lo : Nat} (d : decode cc pc = .ok (.invokevirtual 109, 3)) (hM : Ct0 l yX4_owes cX4_owes 3 (some FieldType.int) fr lo z0 D cy n ad g [.ref (ad k), a1, a2] (some (.int r)) g') {e1 : va_E} (hrecv : vAt n g k e1) {fs : List Value} (he : e1 = .inr (4, fs)) (hst : (st.map fun v => v.category).sum ≤ 8) (hR : fr + 1 ≤ R.frames ∧ 8 + (3 + 11) + lo ≤ R.locals ∧ cells ≤ R.cells ∧ slots ≤ R.slots) (kk : vV p l e R s m args below meth c nL z0 D cells slots Q n ad g' (pc + 3) L (.int r :: st)) : vV p l e R s m args below meth c nL z0 D cells slots Q n ad g pc L (a2 :: a1 :: .ref (ad k) :: st) := cl_L_109 X d hM hrecv he hst ⟨rfl, rfl, hR.1, hR.2.1, hR.2.2.1, hR.2.2.2⟩ (fun r1 n1 ad1 g1 hP => by
  obtain ⟨rfl, rfl, rfl, rfl⟩ := hP
  exact kk)
theorem cl_X4_119 (X : vCx p s m args c cc RX4 nL z0 D cy) {a1 a2 : Value} {P : CtP} {rm : Room} {mc ms : Nat} (d : decode cc pc = .ok (.invokevirtual 119, 3)) (hM : CtG l yX2_debt cX2_debt 5 (some FieldType.int) rm z0 D cy n ad g [.ref (ad k), a1, a2] P mc ms) {e1 : va_E} (hrecv : vAt n g k e1) {fs : List Value} (he : e1 = .inr (2, fs)) (hst : (st.map fun v => v.category).sum ≤ 8) (hR : rm.cells = mc ∧ rm.slots = ms ∧ rm.frames + 1 ≤ R.frames ∧ 8 + (5 + 11) + rm.locals ≤ R.locals ∧ cells + mc ≤ R.cells ∧ slots + ms ≤ R.slots) (kk : ∀ (r : Option Value) (n' : Nat) (ad' : Nat → Nat) (g' : Nat → va_E), P r n' ad' g' → vV p l e R s m args below meth c nL z0 D (cells + mc) (slots + ms) Q n' ad' g' (pc + 3) L (r.toList ++ st)) : vV p l e R s m args below meth c nL z0 D cells slots Q n ad g pc L (a2 :: a1 :: .ref (ad k) :: st) := v_callV (As := [a1, a2]) X wm_X4_119 wi_X2_debt ws_X2_debt wz_X2 wc_X2_debt ⟨rfl, by decide, by decide, (show (parseMethodDescriptor yX2_debt.desc).map (fun d => d.parameters.length) = some 2 from by decide +kernel)⟩ rfl d hM (he ▸ hrecv) rfl hst hR kk
theorem cd_X4_119 (X : vCx p s m args c cc RX4 nL z0 D cy) {a1 a2 : Value} {r : Int32} {g' : Nat → va_E} {fr lo : Nat} (d : decode cc pc = .ok (.invokevirtual 119, 3)) (hM : Ct0 l yX2_debt cX2_debt 5 (some FieldType.int) fr lo z0 D cy n ad g [.ref (ad k), a1, a2] (some (.int r)) g') {e1 : va_E} (hrecv : vAt n g k e1) {fs : List Value} (he : e1 = .inr (2, fs)) (hst : (st.map fun v => v.category).sum ≤ 8) (hR : fr + 1 ≤ R.frames ∧ 8 + (5 + 11) + lo ≤ R.locals ∧ cells ≤ R.cells ∧ slots ≤ R.slots) (kk : vV p l e R s m args below meth c nL z0 D cells slots Q n ad g' (pc + 3) L (.int r :: st)) : vV p l e R s m args below meth c nL z0 D cells slots Q n ad g pc L (a2 :: a1 :: .ref (ad k) :: st) := cl_X4_119 X d hM hrecv he hst ⟨rfl, rfl, hR.1, hR.2.1, hR.2.2.1, hR.2.2.2⟩ (fun r1 n1 ad1 g1 hP => by
  obtain ⟨rfl, rfl, rfl, rfl⟩ := hP
  exact kk)
theorem cl_X2_139 (X : vCx p s m args c cc RX2 nL z0 D cy) {a1 a2 : Value} {P : CtP} {rm : Room} {mc ms : Nat} (d : decode cc pc = .ok (.invokevirtual 139, 3)) (hM : CtG l yX1_debt cX1_debt 3 (some FieldType.int) rm z0 D cy n ad g [.ref (ad k), a1, a2] P mc ms) {e1 : va_E} (hrecv : vAt n g k e1) {fs : List Value} (he : e1 = .inr (1, fs)) (hst : (st.map fun v => v.category).sum ≤ 8) (hR : rm.cells = mc ∧ rm.slots = ms ∧ rm.frames + 1 ≤ R.frames ∧ 8 + (3 + 11) + rm.locals ≤ R.locals ∧ cells + mc ≤ R.cells ∧ slots + ms ≤ R.slots) (kk : ∀ (r : Option Value) (n' : Nat) (ad' : Nat → Nat) (g' : Nat → va_E), P r n' ad' g' → vV p l e R s m args below meth c nL z0 D (cells + mc) (slots + ms) Q n' ad' g' (pc + 3) L (r.toList ++ st)) : vV p l e R s m args below meth c nL z0 D cells slots Q n ad g pc L (a2 :: a1 :: .ref (ad k) :: st) := v_callV (As := [a1, a2]) X wm_X2_139 wi_X1_debt ws_X1_debt wz_X1 wc_X1_debt ⟨rfl, by decide, by decide, (show (parseMethodDescriptor yX1_debt.desc).map (fun d => d.parameters.length) = some 2 from by decide +kernel)⟩ rfl d hM (he ▸ hrecv) rfl hst hR kk
theorem cd_X2_139 (X : vCx p s m args c cc RX2 nL z0 D cy) {a1 a2 : Value} {r : Int32} {g' : Nat → va_E} {fr lo : Nat} (d : decode cc pc = .ok (.invokevirtual 139, 3)) (hM : Ct0 l yX1_debt cX1_debt 3 (some FieldType.int) fr lo z0 D cy n ad g [.ref (ad k), a1, a2] (some (.int r)) g') {e1 : va_E} (hrecv : vAt n g k e1) {fs : List Value} (he : e1 = .inr (1, fs)) (hst : (st.map fun v => v.category).sum ≤ 8) (hR : fr + 1 ≤ R.frames ∧ 8 + (3 + 11) + lo ≤ R.locals ∧ cells ≤ R.cells ∧ slots ≤ R.slots) (kk : vV p l e R s m args below meth c nL z0 D cells slots Q n ad g' (pc + 3) L (.int r :: st)) : vV p l e R s m args below meth c nL z0 D cells slots Q n ad g pc L (a2 :: a1 :: .ref (ad k) :: st) := cl_X2_139 X d hM hrecv he hst ⟨rfl, rfl, hR.1, hR.2.1, hR.2.2.1, hR.2.2.2⟩ (fun r1 n1 ad1 g1 hP => by
  obtain ⟨rfl, rfl, rfl, rfl⟩ := hP
  exact kk)
theorem cl_L_124 (X : vCx p s m args c cc RL nL z0 D cy) {a1 : Value} {P : CtP} {rm : Room} {mc ms : Nat} (d : decode cc pc = .ok (.invokevirtual 124, 3)) (hM : CtG l yX4_pass cX4_pass 2 (some FieldType.int) rm z0 D cy n ad g [.ref (ad k), a1] P mc ms) {e1 : va_E} (hrecv : vAt n g k e1) {fs : List Value} (he : e1 = .inr (4, fs)) (hst : (st.map fun v => v.category).sum ≤ 8) (hR : rm.cells = mc ∧ rm.slots = ms ∧ rm.frames + 1 ≤ R.frames ∧ 8 + (2 + 11) + rm.locals ≤ R.locals ∧ cells + mc ≤ R.cells ∧ slots + ms ≤ R.slots) (kk : ∀ (r : Option Value) (n' : Nat) (ad' : Nat → Nat) (g' : Nat → va_E), P r n' ad' g' → vV p l e R s m args below meth c nL z0 D (cells + mc) (slots + ms) Q n' ad' g' (pc + 3) L (r.toList ++ st)) : vV p l e R s m args below meth c nL z0 D cells slots Q n ad g pc L (a1 :: .ref (ad k) :: st) := v_callV (As := [a1]) X wm_L_124 wi_X4_pass ws_X4_pass wz_X4 wc_X4_pass ⟨rfl, by decide, by decide, (show (parseMethodDescriptor yX4_pass.desc).map (fun d => d.parameters.length) = some 1 from by decide +kernel)⟩ rfl d hM (he ▸ hrecv) rfl hst hR kk
theorem cd_L_124 (X : vCx p s m args c cc RL nL z0 D cy) {a1 : Value} {r : Int32} {g' : Nat → va_E} {fr lo : Nat} (d : decode cc pc = .ok (.invokevirtual 124, 3)) (hM : Ct0 l yX4_pass cX4_pass 2 (some FieldType.int) fr lo z0 D cy n ad g [.ref (ad k), a1] (some (.int r)) g') {e1 : va_E} (hrecv : vAt n g k e1) {fs : List Value} (he : e1 = .inr (4, fs)) (hst : (st.map fun v => v.category).sum ≤ 8) (hR : fr + 1 ≤ R.frames ∧ 8 + (2 + 11) + lo ≤ R.locals ∧ cells ≤ R.cells ∧ slots ≤ R.slots) (kk : vV p l e R s m args below meth c nL z0 D cells slots Q n ad g' (pc + 3) L (.int r :: st)) : vV p l e R s m args below meth c nL z0 D cells slots Q n ad g pc L (a1 :: .ref (ad k) :: st) := cl_L_124 X d hM hrecv he hst ⟨rfl, rfl, hR.1, hR.2.1, hR.2.2.1, hR.2.2.2⟩ (fun r1 n1 ad1 g1 hP => by
  obtain ⟨rfl, rfl, rfl, rfl⟩ := hP
  exact kk)
theorem cl_X4_36 (X : vCx p s m args c cc RX4 nL z0 D cy) {a1 : Value} {P : CtP} {rm : Room} {mc ms : Nat} (d : decode cc pc = .ok (.invokestatic 36, 3)) (hM : CtG l yX4_needArgument cX4_needArgument 1 none rm z0 D cy n ad g [a1] P mc ms) (hst : (st.map fun v => v.category).sum ≤ 8) (hR : rm.cells = mc ∧ rm.slots = ms ∧ rm.frames + 1 ≤ R.frames ∧ 8 + (1 + 11) + rm.locals ≤ R.locals ∧ cells + mc ≤ R.cells ∧ slots + ms ≤ R.slots) (kk : ∀ (r : Option Value) (n' : Nat) (ad' : Nat → Nat) (g' : Nat → va_E), P r n' ad' g' → vV p l e R s m args below meth c nL z0 D (cells + mc) (slots + ms) Q n' ad' g' (pc + 3) L (r.toList ++ st)) : vV p l e R s m args below meth c nL z0 D cells slots Q n ad g pc L (a1 :: st) := v_callS (As := [a1]) X wm_X4_36 wt_X4_needArgument wz_X4 wc_X4_needArgument ⟨by decide, by decide, (show (parseMethodDescriptor yX4_needArgument.desc).map (fun d => d.parameters.length) = some 1 from by decide +kernel)⟩ d hM rfl hst hR kk
theorem cd_X4_36 (X : vCx p s m args c cc RX4 nL z0 D cy) {a1 : Value} {g' : Nat → va_E} {fr lo : Nat} (d : decode cc pc = .ok (.invokestatic 36, 3)) (hM : Ct0 l yX4_needArgument cX4_needArgument 1 none fr lo z0 D cy n ad g [a1] none g') (hst : (st.map fun v => v.category).sum ≤ 8) (hR : fr + 1 ≤ R.frames ∧ 8 + (1 + 11) + lo ≤ R.locals ∧ cells ≤ R.cells ∧ slots ≤ R.slots) (kk : vV p l e R s m args below meth c nL z0 D cells slots Q n ad g' (pc + 3) L st) : vV p l e R s m args below meth c nL z0 D cells slots Q n ad g pc L (a1 :: st) := cl_X4_36 X d hM hst ⟨rfl, rfl, hR.1, hR.2.1, hR.2.2.1, hR.2.2.2⟩ (fun r1 n1 ad1 g1 hP => by
  obtain ⟨rfl, rfl, rfl, rfl⟩ := hP
  exact kk)
theorem cl_X4_122 (X : vCx p s m args c cc RX4 nL z0 D cy) {a1 : Value} {P : CtP} {rm : Room} {mc ms : Nat} (d : decode cc pc = .ok (.invokevirtual 122, 3)) (hM : CtG l yX2_live cX2_live 4 (some FieldType.int) rm z0 D cy n ad g [.ref (ad k), a1] P mc ms) {e1 : va_E} (hrecv : vAt n g k e1) {fs : List Value} (he : e1 = .inr (2, fs)) (hst : (st.map fun v => v.category).sum ≤ 8) (hR : rm.cells = mc ∧ rm.slots = ms ∧ rm.frames + 1 ≤ R.frames ∧ 8 + (4 + 11) + rm.locals ≤ R.locals ∧ cells + mc ≤ R.cells ∧ slots + ms ≤ R.slots) (kk : ∀ (r : Option Value) (n' : Nat) (ad' : Nat → Nat) (g' : Nat → va_E), P r n' ad' g' → vV p l e R s m args below meth c nL z0 D (cells + mc) (slots + ms) Q n' ad' g' (pc + 3) L (r.toList ++ st)) : vV p l e R s m args below meth c nL z0 D cells slots Q n ad g pc L (a1 :: .ref (ad k) :: st) := v_callV (As := [a1]) X wm_X4_122 wi_X2_live ws_X2_live wz_X2 wc_X2_live ⟨rfl, by decide, by decide, (show (parseMethodDescriptor yX2_live.desc).map (fun d => d.parameters.length) = some 1 from by decide +kernel)⟩ rfl d hM (he ▸ hrecv) rfl hst hR kk
theorem cd_X4_122 (X : vCx p s m args c cc RX4 nL z0 D cy) {a1 : Value} {r : Int32} {g' : Nat → va_E} {fr lo : Nat} (d : decode cc pc = .ok (.invokevirtual 122, 3)) (hM : Ct0 l yX2_live cX2_live 4 (some FieldType.int) fr lo z0 D cy n ad g [.ref (ad k), a1] (some (.int r)) g') {e1 : va_E} (hrecv : vAt n g k e1) {fs : List Value} (he : e1 = .inr (2, fs)) (hst : (st.map fun v => v.category).sum ≤ 8) (hR : fr + 1 ≤ R.frames ∧ 8 + (4 + 11) + lo ≤ R.locals ∧ cells ≤ R.cells ∧ slots ≤ R.slots) (kk : vV p l e R s m args below meth c nL z0 D cells slots Q n ad g' (pc + 3) L (.int r :: st)) : vV p l e R s m args below meth c nL z0 D cells slots Q n ad g pc L (a1 :: .ref (ad k) :: st) := cl_X4_122 X d hM hrecv he hst ⟨rfl, rfl, hR.1, hR.2.1, hR.2.2.1, hR.2.2.2⟩ (fun r1 n1 ad1 g1 hP => by
  obtain ⟨rfl, rfl, rfl, rfl⟩ := hP
  exact kk)
theorem cl_X2_94 (X : vCx p s m args c cc RX2 nL z0 D cy) {P : CtP} {rm : Room} {mc ms : Nat} (d : decode cc pc = .ok (.invokevirtual 94, 3)) (hM : CtG l yX2_allThirst cX2_allThirst 3 (some FieldType.int) rm z0 D cy n ad g [.ref (ad k)] P mc ms) {e1 : va_E} (hrecv : vAt n g k e1) {fs : List Value} (he : e1 = .inr (2, fs)) (hst : (st.map fun v => v.category).sum ≤ 8) (hR : rm.cells = mc ∧ rm.slots = ms ∧ rm.frames + 1 ≤ R.frames ∧ 8 + (3 + 11) + rm.locals ≤ R.locals ∧ cells + mc ≤ R.cells ∧ slots + ms ≤ R.slots) (kk : ∀ (r : Option Value) (n' : Nat) (ad' : Nat → Nat) (g' : Nat → va_E), P r n' ad' g' → vV p l e R s m args below meth c nL z0 D (cells + mc) (slots + ms) Q n' ad' g' (pc + 3) L (r.toList ++ st)) : vV p l e R s m args below meth c nL z0 D cells slots Q n ad g pc L (.ref (ad k) :: st) := v_callV (As := []) X wm_X2_94 wi_X2_allThirst ws_X2_allThirst wz_X2 wc_X2_allThirst ⟨rfl, by decide, by decide, (show (parseMethodDescriptor yX2_allThirst.desc).map (fun d => d.parameters.length) = some 0 from by decide +kernel)⟩ rfl d hM (he ▸ hrecv) rfl hst hR kk
theorem cd_X2_94 (X : vCx p s m args c cc RX2 nL z0 D cy) {r : Int32} {g' : Nat → va_E} {fr lo : Nat} (d : decode cc pc = .ok (.invokevirtual 94, 3)) (hM : Ct0 l yX2_allThirst cX2_allThirst 3 (some FieldType.int) fr lo z0 D cy n ad g [.ref (ad k)] (some (.int r)) g') {e1 : va_E} (hrecv : vAt n g k e1) {fs : List Value} (he : e1 = .inr (2, fs)) (hst : (st.map fun v => v.category).sum ≤ 8) (hR : fr + 1 ≤ R.frames ∧ 8 + (3 + 11) + lo ≤ R.locals ∧ cells ≤ R.cells ∧ slots ≤ R.slots) (kk : vV p l e R s m args below meth c nL z0 D cells slots Q n ad g' (pc + 3) L (.int r :: st)) : vV p l e R s m args below meth c nL z0 D cells slots Q n ad g pc L (.ref (ad k) :: st) := cl_X2_94 X d hM hrecv he hst ⟨rfl, rfl, hR.1, hR.2.1, hR.2.2.1, hR.2.2.2⟩ (fun r1 n1 ad1 g1 hP => by
  obtain ⟨rfl, rfl, rfl, rfl⟩ := hP
  exact kk)
theorem cl_X2_98 (X : vCx p s m args c cc RX2 nL z0 D cy) {P : CtP} {rm : Room} {mc ms : Nat} (d : decode cc pc = .ok (.invokevirtual 98, 3)) (hM : CtG l yX2_liveDay cX2_liveDay 3 none rm z0 D cy n ad g [.ref (ad k)] P mc ms) {e1 : va_E} (hrecv : vAt n g k e1) {fs : List Value} (he : e1 = .inr (2, fs)) (hst : (st.map fun v => v.category).sum ≤ 8) (hR : rm.cells = mc ∧ rm.slots = ms ∧ rm.frames + 1 ≤ R.frames ∧ 8 + (3 + 11) + rm.locals ≤ R.locals ∧ cells + mc ≤ R.cells ∧ slots + ms ≤ R.slots) (kk : ∀ (r : Option Value) (n' : Nat) (ad' : Nat → Nat) (g' : Nat → va_E), P r n' ad' g' → vV p l e R s m args below meth c nL z0 D (cells + mc) (slots + ms) Q n' ad' g' (pc + 3) L (r.toList ++ st)) : vV p l e R s m args below meth c nL z0 D cells slots Q n ad g pc L (.ref (ad k) :: st) := v_callV (As := []) X wm_X2_98 wi_X2_liveDay ws_X2_liveDay wz_X2 wc_X2_liveDay ⟨rfl, by decide, by decide, (show (parseMethodDescriptor yX2_liveDay.desc).map (fun d => d.parameters.length) = some 0 from by decide +kernel)⟩ rfl d hM (he ▸ hrecv) rfl hst hR kk
theorem cd_X2_98 (X : vCx p s m args c cc RX2 nL z0 D cy) {g' : Nat → va_E} {fr lo : Nat} (d : decode cc pc = .ok (.invokevirtual 98, 3)) (hM : Ct0 l yX2_liveDay cX2_liveDay 3 none fr lo z0 D cy n ad g [.ref (ad k)] none g') {e1 : va_E} (hrecv : vAt n g k e1) {fs : List Value} (he : e1 = .inr (2, fs)) (hst : (st.map fun v => v.category).sum ≤ 8) (hR : fr + 1 ≤ R.frames ∧ 8 + (3 + 11) + lo ≤ R.locals ∧ cells ≤ R.cells ∧ slots ≤ R.slots) (kk : vV p l e R s m args below meth c nL z0 D cells slots Q n ad g' (pc + 3) L st) : vV p l e R s m args below meth c nL z0 D cells slots Q n ad g pc L (.ref (ad k) :: st) := cl_X2_98 X d hM hrecv he hst ⟨rfl, rfl, hR.1, hR.2.1, hR.2.2.1, hR.2.2.2⟩ (fun r1 n1 ad1 g1 hP => by
  obtain ⟨rfl, rfl, rfl, rfl⟩ := hP
  exact kk)
theorem cl_X2_104 (X : vCx p s m args c cc RX2 nL z0 D cy) {a1 : Value} {P : CtP} {rm : Room} {mc ms : Nat} (d : decode cc pc = .ok (.invokevirtual 104, 3)) (hM : CtG l yX3_rainOn cX3_rainOn 2 (some FieldType.int) rm z0 D cy n ad g [.ref (ad k), a1] P mc ms) {e1 : va_E} (hrecv : vAt n g k e1) {fs : List Value} (he : e1 = .inr (3, fs)) (hst : (st.map fun v => v.category).sum ≤ 8) (hR : rm.cells = mc ∧ rm.slots = ms ∧ rm.frames + 1 ≤ R.frames ∧ 8 + (2 + 11) + rm.locals ≤ R.locals ∧ cells + mc ≤ R.cells ∧ slots + ms ≤ R.slots) (kk : ∀ (r : Option Value) (n' : Nat) (ad' : Nat → Nat) (g' : Nat → va_E), P r n' ad' g' → vV p l e R s m args below meth c nL z0 D (cells + mc) (slots + ms) Q n' ad' g' (pc + 3) L (r.toList ++ st)) : vV p l e R s m args below meth c nL z0 D cells slots Q n ad g pc L (a1 :: .ref (ad k) :: st) := v_callV (As := [a1]) X wm_X2_104 wi_X3_rainOn ws_X3_rainOn wz_X3 wc_X3_rainOn ⟨rfl, by decide, by decide, (show (parseMethodDescriptor yX3_rainOn.desc).map (fun d => d.parameters.length) = some 1 from by decide +kernel)⟩ rfl d hM (he ▸ hrecv) rfl hst hR kk
theorem cd_X2_104 (X : vCx p s m args c cc RX2 nL z0 D cy) {a1 : Value} {r : Int32} {g' : Nat → va_E} {fr lo : Nat} (d : decode cc pc = .ok (.invokevirtual 104, 3)) (hM : Ct0 l yX3_rainOn cX3_rainOn 2 (some FieldType.int) fr lo z0 D cy n ad g [.ref (ad k), a1] (some (.int r)) g') {e1 : va_E} (hrecv : vAt n g k e1) {fs : List Value} (he : e1 = .inr (3, fs)) (hst : (st.map fun v => v.category).sum ≤ 8) (hR : fr + 1 ≤ R.frames ∧ 8 + (2 + 11) + lo ≤ R.locals ∧ cells ≤ R.cells ∧ slots ≤ R.slots) (kk : vV p l e R s m args below meth c nL z0 D cells slots Q n ad g' (pc + 3) L (.int r :: st)) : vV p l e R s m args below meth c nL z0 D cells slots Q n ad g pc L (a1 :: .ref (ad k) :: st) := cl_X2_104 X d hM hrecv he hst ⟨rfl, rfl, hR.1, hR.2.1, hR.2.2.1, hR.2.2.2⟩ (fun r1 n1 ad1 g1 hP => by
  obtain ⟨rfl, rfl, rfl, rfl⟩ := hP
  exact kk)
theorem cl_X3_16 (X : vCx p s m args c cc RX3 nL z0 D cy) {a1 a2 : Value} {P : CtP} {rm : Room} {mc ms : Nat} (d : decode cc pc = .ok (.invokestatic 16, 3)) (hM : CtG l yJ9_floorMod_7cf53 cJ9_floorMod_7cf53 3 (some FieldType.int) rm z0 D cy n ad g [a1, a2] P mc ms) (hst : (st.map fun v => v.category).sum ≤ 8) (hR : rm.cells = mc ∧ rm.slots = ms ∧ rm.frames + 1 ≤ R.frames ∧ 8 + (3 + 11) + rm.locals ≤ R.locals ∧ cells + mc ≤ R.cells ∧ slots + ms ≤ R.slots) (kk : ∀ (r : Option Value) (n' : Nat) (ad' : Nat → Nat) (g' : Nat → va_E), P r n' ad' g' → vV p l e R s m args below meth c nL z0 D (cells + mc) (slots + ms) Q n' ad' g' (pc + 3) L (r.toList ++ st)) : vV p l e R s m args below meth c nL z0 D cells slots Q n ad g pc L (a2 :: a1 :: st) := v_callS (As := [a1, a2]) X wm_X3_16 wt_J9_floorMod_7cf53 wz_J9 wc_J9_floorMod_7cf53 ⟨by decide, by decide, (show (parseMethodDescriptor yJ9_floorMod_7cf53.desc).map (fun d => d.parameters.length) = some 2 from by decide +kernel)⟩ d hM rfl hst hR kk
theorem cd_X3_16 (X : vCx p s m args c cc RX3 nL z0 D cy) {a1 a2 : Value} {r : Int32} {g' : Nat → va_E} {fr lo : Nat} (d : decode cc pc = .ok (.invokestatic 16, 3)) (hM : Ct0 l yJ9_floorMod_7cf53 cJ9_floorMod_7cf53 3 (some FieldType.int) fr lo z0 D cy n ad g [a1, a2] (some (.int r)) g') (hst : (st.map fun v => v.category).sum ≤ 8) (hR : fr + 1 ≤ R.frames ∧ 8 + (3 + 11) + lo ≤ R.locals ∧ cells ≤ R.cells ∧ slots ≤ R.slots) (kk : vV p l e R s m args below meth c nL z0 D cells slots Q n ad g' (pc + 3) L (.int r :: st)) : vV p l e R s m args below meth c nL z0 D cells slots Q n ad g pc L (a2 :: a1 :: st) := cl_X3_16 X d hM hst ⟨rfl, rfl, hR.1, hR.2.1, hR.2.2.1, hR.2.2.2⟩ (fun r1 n1 ad1 g1 hP => by
  obtain ⟨rfl, rfl, rfl, rfl⟩ := hP
  exact kk)
theorem cl_X2_109 (X : vCx p s m args c cc RX2 nL z0 D cy) {a1 : Value} {P : CtP} {rm : Room} {mc ms : Nat} (d : decode cc pc = .ok (.invokevirtual 109, 3)) (hM : CtG l yX2_rainDown cX2_rainDown 4 none rm z0 D cy n ad g [.ref (ad k), a1] P mc ms) {e1 : va_E} (hrecv : vAt n g k e1) {fs : List Value} (he : e1 = .inr (2, fs)) (hst : (st.map fun v => v.category).sum ≤ 8) (hR : rm.cells = mc ∧ rm.slots = ms ∧ rm.frames + 1 ≤ R.frames ∧ 8 + (4 + 11) + rm.locals ≤ R.locals ∧ cells + mc ≤ R.cells ∧ slots + ms ≤ R.slots) (kk : ∀ (r : Option Value) (n' : Nat) (ad' : Nat → Nat) (g' : Nat → va_E), P r n' ad' g' → vV p l e R s m args below meth c nL z0 D (cells + mc) (slots + ms) Q n' ad' g' (pc + 3) L (r.toList ++ st)) : vV p l e R s m args below meth c nL z0 D cells slots Q n ad g pc L (a1 :: .ref (ad k) :: st) := v_callV (As := [a1]) X wm_X2_109 wi_X2_rainDown ws_X2_rainDown wz_X2 wc_X2_rainDown ⟨rfl, by decide, by decide, (show (parseMethodDescriptor yX2_rainDown.desc).map (fun d => d.parameters.length) = some 1 from by decide +kernel)⟩ rfl d hM (he ▸ hrecv) rfl hst hR kk
theorem cd_X2_109 (X : vCx p s m args c cc RX2 nL z0 D cy) {a1 : Value} {g' : Nat → va_E} {fr lo : Nat} (d : decode cc pc = .ok (.invokevirtual 109, 3)) (hM : Ct0 l yX2_rainDown cX2_rainDown 4 none fr lo z0 D cy n ad g [.ref (ad k), a1] none g') {e1 : va_E} (hrecv : vAt n g k e1) {fs : List Value} (he : e1 = .inr (2, fs)) (hst : (st.map fun v => v.category).sum ≤ 8) (hR : fr + 1 ≤ R.frames ∧ 8 + (4 + 11) + lo ≤ R.locals ∧ cells ≤ R.cells ∧ slots ≤ R.slots) (kk : vV p l e R s m args below meth c nL z0 D cells slots Q n ad g' (pc + 3) L st) : vV p l e R s m args below meth c nL z0 D cells slots Q n ad g pc L (a1 :: .ref (ad k) :: st) := cl_X2_109 X d hM hrecv he hst ⟨rfl, rfl, hR.1, hR.2.1, hR.2.2.1, hR.2.2.2⟩ (fun r1 n1 ad1 g1 hP => by
  obtain ⟨rfl, rfl, rfl, rfl⟩ := hP
  exact kk)
theorem cl_X2_128 (X : vCx p s m args c cc RX2 nL z0 D cy) {a1 : Value} {P : CtP} {rm : Room} {mc ms : Nat} (d : decode cc pc = .ok (.invokevirtual 128, 3)) (hM : CtG l yX0_runOff cX0_runOff 2 (some FieldType.int) rm z0 D cy n ad g [.ref (ad k), a1] P mc ms) {e1 : va_E} (hrecv : vAt n g k e1) {fs : List Value} (he : e1 = .inr (0, fs)) (hst : (st.map fun v => v.category).sum ≤ 8) (hR : rm.cells = mc ∧ rm.slots = ms ∧ rm.frames + 1 ≤ R.frames ∧ 8 + (2 + 11) + rm.locals ≤ R.locals ∧ cells + mc ≤ R.cells ∧ slots + ms ≤ R.slots) (kk : ∀ (r : Option Value) (n' : Nat) (ad' : Nat → Nat) (g' : Nat → va_E), P r n' ad' g' → vV p l e R s m args below meth c nL z0 D (cells + mc) (slots + ms) Q n' ad' g' (pc + 3) L (r.toList ++ st)) : vV p l e R s m args below meth c nL z0 D cells slots Q n ad g pc L (a1 :: .ref (ad k) :: st) := v_callV (As := [a1]) X wm_X2_128 wi_X0_runOff ws_X0_runOff wz_X0 wc_X0_runOff ⟨rfl, by decide, by decide, (show (parseMethodDescriptor yX0_runOff.desc).map (fun d => d.parameters.length) = some 1 from by decide +kernel)⟩ rfl d hM (he ▸ hrecv) rfl hst hR kk
theorem cd_X2_128 (X : vCx p s m args c cc RX2 nL z0 D cy) {a1 : Value} {r : Int32} {g' : Nat → va_E} {fr lo : Nat} (d : decode cc pc = .ok (.invokevirtual 128, 3)) (hM : Ct0 l yX0_runOff cX0_runOff 2 (some FieldType.int) fr lo z0 D cy n ad g [.ref (ad k), a1] (some (.int r)) g') {e1 : va_E} (hrecv : vAt n g k e1) {fs : List Value} (he : e1 = .inr (0, fs)) (hst : (st.map fun v => v.category).sum ≤ 8) (hR : fr + 1 ≤ R.frames ∧ 8 + (2 + 11) + lo ≤ R.locals ∧ cells ≤ R.cells ∧ slots ≤ R.slots) (kk : vV p l e R s m args below meth c nL z0 D cells slots Q n ad g' (pc + 3) L (.int r :: st)) : vV p l e R s m args below meth c nL z0 D cells slots Q n ad g pc L (a1 :: .ref (ad k) :: st) := cl_X2_128 X d hM hrecv he hst ⟨rfl, rfl, hR.1, hR.2.1, hR.2.2.1, hR.2.2.2⟩ (fun r1 n1 ad1 g1 hP => by
  obtain ⟨rfl, rfl, rfl, rfl⟩ := hP
  exact kk)
theorem cl_X2_131 (X : vCx p s m args c cc RX2 nL z0 D cy) {a1 a2 : Value} {P : CtP} {rm : Room} {mc ms : Nat} (d : decode cc pc = .ok (.invokevirtual 131, 3)) (hM : CtG l yX2_pour cX2_pour 6 (some FieldType.int) rm z0 D cy n ad g [.ref (ad k), a1, a2] P mc ms) {e1 : va_E} (hrecv : vAt n g k e1) {fs : List Value} (he : e1 = .inr (2, fs)) (hst : (st.map fun v => v.category).sum ≤ 8) (hR : rm.cells = mc ∧ rm.slots = ms ∧ rm.frames + 1 ≤ R.frames ∧ 8 + (6 + 11) + rm.locals ≤ R.locals ∧ cells + mc ≤ R.cells ∧ slots + ms ≤ R.slots) (kk : ∀ (r : Option Value) (n' : Nat) (ad' : Nat → Nat) (g' : Nat → va_E), P r n' ad' g' → vV p l e R s m args below meth c nL z0 D (cells + mc) (slots + ms) Q n' ad' g' (pc + 3) L (r.toList ++ st)) : vV p l e R s m args below meth c nL z0 D cells slots Q n ad g pc L (a2 :: a1 :: .ref (ad k) :: st) := v_callV (As := [a1, a2]) X wm_X2_131 wi_X2_pour ws_X2_pour wz_X2 wc_X2_pour ⟨rfl, by decide, by decide, (show (parseMethodDescriptor yX2_pour.desc).map (fun d => d.parameters.length) = some 2 from by decide +kernel)⟩ rfl d hM (he ▸ hrecv) rfl hst hR kk
theorem cd_X2_131 (X : vCx p s m args c cc RX2 nL z0 D cy) {a1 a2 : Value} {r : Int32} {g' : Nat → va_E} {fr lo : Nat} (d : decode cc pc = .ok (.invokevirtual 131, 3)) (hM : Ct0 l yX2_pour cX2_pour 6 (some FieldType.int) fr lo z0 D cy n ad g [.ref (ad k), a1, a2] (some (.int r)) g') {e1 : va_E} (hrecv : vAt n g k e1) {fs : List Value} (he : e1 = .inr (2, fs)) (hst : (st.map fun v => v.category).sum ≤ 8) (hR : fr + 1 ≤ R.frames ∧ 8 + (6 + 11) + lo ≤ R.locals ∧ cells ≤ R.cells ∧ slots ≤ R.slots) (kk : vV p l e R s m args below meth c nL z0 D cells slots Q n ad g' (pc + 3) L (.int r :: st)) : vV p l e R s m args below meth c nL z0 D cells slots Q n ad g pc L (a2 :: a1 :: .ref (ad k) :: st) := cl_X2_131 X d hM hrecv he hst ⟨rfl, rfl, hR.1, hR.2.1, hR.2.2.1, hR.2.2.2⟩ (fun r1 n1 ad1 g1 hP => by
  obtain ⟨rfl, rfl, rfl, rfl⟩ := hP
  exact kk)
theorem cl_X2_83 (X : vCx p s m args c cc RX2 nL z0 D cy) {a1 : Value} {P : CtP} {rm : Room} {mc ms : Nat} (d : decode cc pc = .ok (.invokevirtual 83, 3)) (hM : CtG l yX2_hasHouse cX2_hasHouse 2 (some FieldType.boolean) rm z0 D cy n ad g [.ref (ad k), a1] P mc ms) {e1 : va_E} (hrecv : vAt n g k e1) {fs : List Value} (he : e1 = .inr (2, fs)) (hst : (st.map fun v => v.category).sum ≤ 8) (hR : rm.cells = mc ∧ rm.slots = ms ∧ rm.frames + 1 ≤ R.frames ∧ 8 + (2 + 11) + rm.locals ≤ R.locals ∧ cells + mc ≤ R.cells ∧ slots + ms ≤ R.slots) (kk : ∀ (r : Option Value) (n' : Nat) (ad' : Nat → Nat) (g' : Nat → va_E), P r n' ad' g' → vV p l e R s m args below meth c nL z0 D (cells + mc) (slots + ms) Q n' ad' g' (pc + 3) L (r.toList ++ st)) : vV p l e R s m args below meth c nL z0 D cells slots Q n ad g pc L (a1 :: .ref (ad k) :: st) := v_callV (As := [a1]) X wm_X2_83 wi_X2_hasHouse ws_X2_hasHouse wz_X2 wc_X2_hasHouse ⟨rfl, by decide, by decide, (show (parseMethodDescriptor yX2_hasHouse.desc).map (fun d => d.parameters.length) = some 1 from by decide +kernel)⟩ rfl d hM (he ▸ hrecv) rfl hst hR kk
theorem cd_X2_83 (X : vCx p s m args c cc RX2 nL z0 D cy) {a1 : Value} {r : Int32} {g' : Nat → va_E} {fr lo : Nat} (d : decode cc pc = .ok (.invokevirtual 83, 3)) (hM : Ct0 l yX2_hasHouse cX2_hasHouse 2 (some FieldType.boolean) fr lo z0 D cy n ad g [.ref (ad k), a1] (some (.int r)) g') {e1 : va_E} (hrecv : vAt n g k e1) {fs : List Value} (he : e1 = .inr (2, fs)) (hst : (st.map fun v => v.category).sum ≤ 8) (hR : fr + 1 ≤ R.frames ∧ 8 + (2 + 11) + lo ≤ R.locals ∧ cells ≤ R.cells ∧ slots ≤ R.slots) (kk : vV p l e R s m args below meth c nL z0 D cells slots Q n ad g' (pc + 3) L (.int r :: st)) : vV p l e R s m args below meth c nL z0 D cells slots Q n ad g pc L (a1 :: .ref (ad k) :: st) := cl_X2_83 X d hM hrecv he hst ⟨rfl, rfl, hR.1, hR.2.1, hR.2.2.1, hR.2.2.2⟩ (fun r1 n1 ad1 g1 hP => by
  obtain ⟨rfl, rfl, rfl, rfl⟩ := hP
  exact kk)
theorem cl_X2_90 (X : vCx p s m args c cc RX2 nL z0 D cy) {a1 : Value} {P : CtP} {rm : Room} {mc ms : Nat} (d : decode cc pc = .ok (.invokevirtual 90, 3)) (hM : CtG l yX0_takeIn cX0_takeIn 3 (some FieldType.int) rm z0 D cy n ad g [.ref (ad k), a1] P mc ms) {e1 : va_E} (hrecv : vAt n g k e1) {fs : List Value} (he : e1 = .inr (0, fs)) (hst : (st.map fun v => v.category).sum ≤ 8) (hR : rm.cells = mc ∧ rm.slots = ms ∧ rm.frames + 1 ≤ R.frames ∧ 8 + (3 + 11) + rm.locals ≤ R.locals ∧ cells + mc ≤ R.cells ∧ slots + ms ≤ R.slots) (kk : ∀ (r : Option Value) (n' : Nat) (ad' : Nat → Nat) (g' : Nat → va_E), P r n' ad' g' → vV p l e R s m args below meth c nL z0 D (cells + mc) (slots + ms) Q n' ad' g' (pc + 3) L (r.toList ++ st)) : vV p l e R s m args below meth c nL z0 D cells slots Q n ad g pc L (a1 :: .ref (ad k) :: st) := v_callV (As := [a1]) X wm_X2_90 wi_X0_takeIn ws_X0_takeIn wz_X0 wc_X0_takeIn ⟨rfl, by decide, by decide, (show (parseMethodDescriptor yX0_takeIn.desc).map (fun d => d.parameters.length) = some 1 from by decide +kernel)⟩ rfl d hM (he ▸ hrecv) rfl hst hR kk
theorem cd_X2_90 (X : vCx p s m args c cc RX2 nL z0 D cy) {a1 : Value} {r : Int32} {g' : Nat → va_E} {fr lo : Nat} (d : decode cc pc = .ok (.invokevirtual 90, 3)) (hM : Ct0 l yX0_takeIn cX0_takeIn 3 (some FieldType.int) fr lo z0 D cy n ad g [.ref (ad k), a1] (some (.int r)) g') {e1 : va_E} (hrecv : vAt n g k e1) {fs : List Value} (he : e1 = .inr (0, fs)) (hst : (st.map fun v => v.category).sum ≤ 8) (hR : fr + 1 ≤ R.frames ∧ 8 + (3 + 11) + lo ≤ R.locals ∧ cells ≤ R.cells ∧ slots ≤ R.slots) (kk : vV p l e R s m args below meth c nL z0 D cells slots Q n ad g' (pc + 3) L (.int r :: st)) : vV p l e R s m args below meth c nL z0 D cells slots Q n ad g pc L (a1 :: .ref (ad k) :: st) := cl_X2_90 X d hM hrecv he hst ⟨rfl, rfl, hR.1, hR.2.1, hR.2.2.1, hR.2.2.2⟩ (fun r1 n1 ad1 g1 hP => by
  obtain ⟨rfl, rfl, rfl, rfl⟩ := hP
  exact kk)
theorem cl_X0_42 (X : vCx p s m args c cc RX0 nL z0 D cy) {a1 a2 : Value} {P : CtP} {rm : Room} {mc ms : Nat} (d : decode cc pc = .ok (.invokestatic 42, 3)) (hM : CtG l yJ9_min_7cf53 cJ9_min_7cf53 2 (some FieldType.int) rm z0 D cy n ad g [a1, a2] P mc ms) (hst : (st.map fun v => v.category).sum ≤ 8) (hR : rm.cells = mc ∧ rm.slots = ms ∧ rm.frames + 1 ≤ R.frames ∧ 8 + (2 + 11) + rm.locals ≤ R.locals ∧ cells + mc ≤ R.cells ∧ slots + ms ≤ R.slots) (kk : ∀ (r : Option Value) (n' : Nat) (ad' : Nat → Nat) (g' : Nat → va_E), P r n' ad' g' → vV p l e R s m args below meth c nL z0 D (cells + mc) (slots + ms) Q n' ad' g' (pc + 3) L (r.toList ++ st)) : vV p l e R s m args below meth c nL z0 D cells slots Q n ad g pc L (a2 :: a1 :: st) := v_callS (As := [a1, a2]) X wm_X0_42 wt_J9_min_7cf53 wz_J9 wc_J9_min_7cf53 ⟨by decide, by decide, (show (parseMethodDescriptor yJ9_min_7cf53.desc).map (fun d => d.parameters.length) = some 2 from by decide +kernel)⟩ d hM rfl hst hR kk
theorem cd_X0_42 (X : vCx p s m args c cc RX0 nL z0 D cy) {a1 a2 : Value} {r : Int32} {g' : Nat → va_E} {fr lo : Nat} (d : decode cc pc = .ok (.invokestatic 42, 3)) (hM : Ct0 l yJ9_min_7cf53 cJ9_min_7cf53 2 (some FieldType.int) fr lo z0 D cy n ad g [a1, a2] (some (.int r)) g') (hst : (st.map fun v => v.category).sum ≤ 8) (hR : fr + 1 ≤ R.frames ∧ 8 + (2 + 11) + lo ≤ R.locals ∧ cells ≤ R.cells ∧ slots ≤ R.slots) (kk : vV p l e R s m args below meth c nL z0 D cells slots Q n ad g' (pc + 3) L (.int r :: st)) : vV p l e R s m args below meth c nL z0 D cells slots Q n ad g pc L (a2 :: a1 :: st) := cl_X0_42 X d hM hst ⟨rfl, rfl, hR.1, hR.2.1, hR.2.2.1, hR.2.2.2⟩ (fun r1 n1 ad1 g1 hP => by
  obtain ⟨rfl, rfl, rfl, rfl⟩ := hP
  exact kk)
theorem cl_X2_113 (X : vCx p s m args c cc RX2 nL z0 D cy) {P : CtP} {rm : Room} {mc ms : Nat} (d : decode cc pc = .ok (.invokevirtual 113, 3)) (hM : CtG l yX0_drink cX0_drink 3 (some FieldType.int) rm z0 D cy n ad g [.ref (ad k)] P mc ms) {e1 : va_E} (hrecv : vAt n g k e1) {fs : List Value} (he : e1 = .inr (0, fs)) (hst : (st.map fun v => v.category).sum ≤ 8) (hR : rm.cells = mc ∧ rm.slots = ms ∧ rm.frames + 1 ≤ R.frames ∧ 8 + (3 + 11) + rm.locals ≤ R.locals ∧ cells + mc ≤ R.cells ∧ slots + ms ≤ R.slots) (kk : ∀ (r : Option Value) (n' : Nat) (ad' : Nat → Nat) (g' : Nat → va_E), P r n' ad' g' → vV p l e R s m args below meth c nL z0 D (cells + mc) (slots + ms) Q n' ad' g' (pc + 3) L (r.toList ++ st)) : vV p l e R s m args below meth c nL z0 D cells slots Q n ad g pc L (.ref (ad k) :: st) := v_callV (As := []) X wm_X2_113 wi_X0_drink ws_X0_drink wz_X0 wc_X0_drink ⟨rfl, by decide, by decide, (show (parseMethodDescriptor yX0_drink.desc).map (fun d => d.parameters.length) = some 0 from by decide +kernel)⟩ rfl d hM (he ▸ hrecv) rfl hst hR kk
theorem cd_X2_113 (X : vCx p s m args c cc RX2 nL z0 D cy) {r : Int32} {g' : Nat → va_E} {fr lo : Nat} (d : decode cc pc = .ok (.invokevirtual 113, 3)) (hM : Ct0 l yX0_drink cX0_drink 3 (some FieldType.int) fr lo z0 D cy n ad g [.ref (ad k)] (some (.int r)) g') {e1 : va_E} (hrecv : vAt n g k e1) {fs : List Value} (he : e1 = .inr (0, fs)) (hst : (st.map fun v => v.category).sum ≤ 8) (hR : fr + 1 ≤ R.frames ∧ 8 + (3 + 11) + lo ≤ R.locals ∧ cells ≤ R.cells ∧ slots ≤ R.slots) (kk : vV p l e R s m args below meth c nL z0 D cells slots Q n ad g' (pc + 3) L (.int r :: st)) : vV p l e R s m args below meth c nL z0 D cells slots Q n ad g pc L (.ref (ad k) :: st) := cl_X2_113 X d hM hrecv he hst ⟨rfl, rfl, hR.1, hR.2.1, hR.2.2.1, hR.2.2.2⟩ (fun r1 n1 ad1 g1 hP => by
  obtain ⟨rfl, rfl, rfl, rfl⟩ := hP
  exact kk)
theorem cl_X2_116 (X : vCx p s m args c cc RX2 nL z0 D cy) {P : CtP} {rm : Room} {mc ms : Nat} (d : decode cc pc = .ok (.invokevirtual 116, 3)) (hM : CtG l yX0_waterGarden cX0_waterGarden 3 none rm z0 D cy n ad g [.ref (ad k)] P mc ms) {e1 : va_E} (hrecv : vAt n g k e1) {fs : List Value} (he : e1 = .inr (0, fs)) (hst : (st.map fun v => v.category).sum ≤ 8) (hR : rm.cells = mc ∧ rm.slots = ms ∧ rm.frames + 1 ≤ R.frames ∧ 8 + (3 + 11) + rm.locals ≤ R.locals ∧ cells + mc ≤ R.cells ∧ slots + ms ≤ R.slots) (kk : ∀ (r : Option Value) (n' : Nat) (ad' : Nat → Nat) (g' : Nat → va_E), P r n' ad' g' → vV p l e R s m args below meth c nL z0 D (cells + mc) (slots + ms) Q n' ad' g' (pc + 3) L (r.toList ++ st)) : vV p l e R s m args below meth c nL z0 D cells slots Q n ad g pc L (.ref (ad k) :: st) := v_callV (As := []) X wm_X2_116 wi_X0_waterGarden ws_X0_waterGarden wz_X0 wc_X0_waterGarden ⟨rfl, by decide, by decide, (show (parseMethodDescriptor yX0_waterGarden.desc).map (fun d => d.parameters.length) = some 0 from by decide +kernel)⟩ rfl d hM (he ▸ hrecv) rfl hst hR kk
theorem cd_X2_116 (X : vCx p s m args c cc RX2 nL z0 D cy) {g' : Nat → va_E} {fr lo : Nat} (d : decode cc pc = .ok (.invokevirtual 116, 3)) (hM : Ct0 l yX0_waterGarden cX0_waterGarden 3 none fr lo z0 D cy n ad g [.ref (ad k)] none g') {e1 : va_E} (hrecv : vAt n g k e1) {fs : List Value} (he : e1 = .inr (0, fs)) (hst : (st.map fun v => v.category).sum ≤ 8) (hR : fr + 1 ≤ R.frames ∧ 8 + (3 + 11) + lo ≤ R.locals ∧ cells ≤ R.cells ∧ slots ≤ R.slots) (kk : vV p l e R s m args below meth c nL z0 D cells slots Q n ad g' (pc + 3) L st) : vV p l e R s m args below meth c nL z0 D cells slots Q n ad g pc L (.ref (ad k) :: st) := cl_X2_116 X d hM hrecv he hst ⟨rfl, rfl, hR.1, hR.2.1, hR.2.2.1, hR.2.2.2⟩ (fun r1 n1 ad1 g1 hP => by
  obtain ⟨rfl, rfl, rfl, rfl⟩ := hP
  exact kk)
theorem cl_X2_119 (X : vCx p s m args c cc RX2 nL z0 D cy) {P : CtP} {rm : Room} {mc ms : Nat} (d : decode cc pc = .ok (.invokevirtual 119, 3)) (hM : CtG l yX2_openPipesFlow cX2_openPipesFlow 3 none rm z0 D cy n ad g [.ref (ad k)] P mc ms) {e1 : va_E} (hrecv : vAt n g k e1) {fs : List Value} (he : e1 = .inr (2, fs)) (hst : (st.map fun v => v.category).sum ≤ 8) (hR : rm.cells = mc ∧ rm.slots = ms ∧ rm.frames + 1 ≤ R.frames ∧ 8 + (3 + 11) + rm.locals ≤ R.locals ∧ cells + mc ≤ R.cells ∧ slots + ms ≤ R.slots) (kk : ∀ (r : Option Value) (n' : Nat) (ad' : Nat → Nat) (g' : Nat → va_E), P r n' ad' g' → vV p l e R s m args below meth c nL z0 D (cells + mc) (slots + ms) Q n' ad' g' (pc + 3) L (r.toList ++ st)) : vV p l e R s m args below meth c nL z0 D cells slots Q n ad g pc L (.ref (ad k) :: st) := v_callV (As := []) X wm_X2_119 wi_X2_openPipesFlow ws_X2_openPipesFlow wz_X2 wc_X2_openPipesFlow ⟨rfl, by decide, by decide, (show (parseMethodDescriptor yX2_openPipesFlow.desc).map (fun d => d.parameters.length) = some 0 from by decide +kernel)⟩ rfl d hM (he ▸ hrecv) rfl hst hR kk
theorem cd_X2_119 (X : vCx p s m args c cc RX2 nL z0 D cy) {g' : Nat → va_E} {fr lo : Nat} (d : decode cc pc = .ok (.invokevirtual 119, 3)) (hM : Ct0 l yX2_openPipesFlow cX2_openPipesFlow 3 none fr lo z0 D cy n ad g [.ref (ad k)] none g') {e1 : va_E} (hrecv : vAt n g k e1) {fs : List Value} (he : e1 = .inr (2, fs)) (hst : (st.map fun v => v.category).sum ≤ 8) (hR : fr + 1 ≤ R.frames ∧ 8 + (3 + 11) + lo ≤ R.locals ∧ cells ≤ R.cells ∧ slots ≤ R.slots) (kk : vV p l e R s m args below meth c nL z0 D cells slots Q n ad g' (pc + 3) L st) : vV p l e R s m args below meth c nL z0 D cells slots Q n ad g pc L (.ref (ad k) :: st) := cl_X2_119 X d hM hrecv he hst ⟨rfl, rfl, hR.1, hR.2.1, hR.2.2.1, hR.2.2.2⟩ (fun r1 n1 ad1 g1 hP => by
  obtain ⟨rfl, rfl, rfl, rfl⟩ := hP
  exact kk)
theorem cl_X2_135 (X : vCx p s m args c cc RX2 nL z0 D cy) {a1 a2 : Value} {P : CtP} {rm : Room} {mc ms : Nat} (d : decode cc pc = .ok (.invokevirtual 135, 3)) (hM : CtG l yX1_evenOut cX1_evenOut 6 none rm z0 D cy n ad g [.ref (ad k), a1, a2] P mc ms) {e1 : va_E} (hrecv : vAt n g k e1) {fs : List Value} (he : e1 = .inr (1, fs)) (hst : (st.map fun v => v.category).sum ≤ 8) (hR : rm.cells = mc ∧ rm.slots = ms ∧ rm.frames + 1 ≤ R.frames ∧ 8 + (6 + 11) + rm.locals ≤ R.locals ∧ cells + mc ≤ R.cells ∧ slots + ms ≤ R.slots) (kk : ∀ (r : Option Value) (n' : Nat) (ad' : Nat → Nat) (g' : Nat → va_E), P r n' ad' g' → vV p l e R s m args below meth c nL z0 D (cells + mc) (slots + ms) Q n' ad' g' (pc + 3) L (r.toList ++ st)) : vV p l e R s m args below meth c nL z0 D cells slots Q n ad g pc L (a2 :: a1 :: .ref (ad k) :: st) := v_callV (As := [a1, a2]) X wm_X2_135 wi_X1_evenOut ws_X1_evenOut wz_X1 wc_X1_evenOut ⟨rfl, by decide, by decide, (show (parseMethodDescriptor yX1_evenOut.desc).map (fun d => d.parameters.length) = some 2 from by decide +kernel)⟩ rfl d hM (he ▸ hrecv) rfl hst hR kk
theorem cd_X2_135 (X : vCx p s m args c cc RX2 nL z0 D cy) {a1 a2 : Value} {g' : Nat → va_E} {fr lo : Nat} (d : decode cc pc = .ok (.invokevirtual 135, 3)) (hM : Ct0 l yX1_evenOut cX1_evenOut 6 none fr lo z0 D cy n ad g [.ref (ad k), a1, a2] none g') {e1 : va_E} (hrecv : vAt n g k e1) {fs : List Value} (he : e1 = .inr (1, fs)) (hst : (st.map fun v => v.category).sum ≤ 8) (hR : fr + 1 ≤ R.frames ∧ 8 + (6 + 11) + lo ≤ R.locals ∧ cells ≤ R.cells ∧ slots ≤ R.slots) (kk : vV p l e R s m args below meth c nL z0 D cells slots Q n ad g' (pc + 3) L st) : vV p l e R s m args below meth c nL z0 D cells slots Q n ad g pc L (a2 :: a1 :: .ref (ad k) :: st) := cl_X2_135 X d hM hrecv he hst ⟨rfl, rfl, hR.1, hR.2.1, hR.2.2.1, hR.2.2.2⟩ (fun r1 n1 ad1 g1 hP => by
  obtain ⟨rfl, rfl, rfl, rfl⟩ := hP
  exact kk)
theorem cl_X1_37 (X : vCx p s m args c cc RX1 nL z0 D cy) {a1 a2 : Value} {P : CtP} {rm : Room} {mc ms : Nat} (d : decode cc pc = .ok (.invokestatic 37, 3)) (hM : CtG l yJ9_min_7cf53 cJ9_min_7cf53 2 (some FieldType.int) rm z0 D cy n ad g [a1, a2] P mc ms) (hst : (st.map fun v => v.category).sum ≤ 8) (hR : rm.cells = mc ∧ rm.slots = ms ∧ rm.frames + 1 ≤ R.frames ∧ 8 + (2 + 11) + rm.locals ≤ R.locals ∧ cells + mc ≤ R.cells ∧ slots + ms ≤ R.slots) (kk : ∀ (r : Option Value) (n' : Nat) (ad' : Nat → Nat) (g' : Nat → va_E), P r n' ad' g' → vV p l e R s m args below meth c nL z0 D (cells + mc) (slots + ms) Q n' ad' g' (pc + 3) L (r.toList ++ st)) : vV p l e R s m args below meth c nL z0 D cells slots Q n ad g pc L (a2 :: a1 :: st) := v_callS (As := [a1, a2]) X wm_X1_37 wt_J9_min_7cf53 wz_J9 wc_J9_min_7cf53 ⟨by decide, by decide, (show (parseMethodDescriptor yJ9_min_7cf53.desc).map (fun d => d.parameters.length) = some 2 from by decide +kernel)⟩ d hM rfl hst hR kk
theorem cd_X1_37 (X : vCx p s m args c cc RX1 nL z0 D cy) {a1 a2 : Value} {r : Int32} {g' : Nat → va_E} {fr lo : Nat} (d : decode cc pc = .ok (.invokestatic 37, 3)) (hM : Ct0 l yJ9_min_7cf53 cJ9_min_7cf53 2 (some FieldType.int) fr lo z0 D cy n ad g [a1, a2] (some (.int r)) g') (hst : (st.map fun v => v.category).sum ≤ 8) (hR : fr + 1 ≤ R.frames ∧ 8 + (2 + 11) + lo ≤ R.locals ∧ cells ≤ R.cells ∧ slots ≤ R.slots) (kk : vV p l e R s m args below meth c nL z0 D cells slots Q n ad g' (pc + 3) L (.int r :: st)) : vV p l e R s m args below meth c nL z0 D cells slots Q n ad g pc L (a2 :: a1 :: st) := cl_X1_37 X d hM hst ⟨rfl, rfl, hR.1, hR.2.1, hR.2.2.1, hR.2.2.2⟩ (fun r1 n1 ad1 g1 hP => by
  obtain ⟨rfl, rfl, rfl, rfl⟩ := hP
  exact kk)
theorem cl_X1_43 (X : vCx p s m args c cc RX1 nL z0 D cy) {a1 a2 : Value} {P : CtP} {rm : Room} {mc ms : Nat} (d : decode cc pc = .ok (.invokestatic 43, 3)) (hM : CtG l yJ9_max_7cf53 cJ9_max_7cf53 2 (some FieldType.int) rm z0 D cy n ad g [a1, a2] P mc ms) (hst : (st.map fun v => v.category).sum ≤ 8) (hR : rm.cells = mc ∧ rm.slots = ms ∧ rm.frames + 1 ≤ R.frames ∧ 8 + (2 + 11) + rm.locals ≤ R.locals ∧ cells + mc ≤ R.cells ∧ slots + ms ≤ R.slots) (kk : ∀ (r : Option Value) (n' : Nat) (ad' : Nat → Nat) (g' : Nat → va_E), P r n' ad' g' → vV p l e R s m args below meth c nL z0 D (cells + mc) (slots + ms) Q n' ad' g' (pc + 3) L (r.toList ++ st)) : vV p l e R s m args below meth c nL z0 D cells slots Q n ad g pc L (a2 :: a1 :: st) := v_callS (As := [a1, a2]) X wm_X1_43 wt_J9_max_7cf53 wz_J9 wc_J9_max_7cf53 ⟨by decide, by decide, (show (parseMethodDescriptor yJ9_max_7cf53.desc).map (fun d => d.parameters.length) = some 2 from by decide +kernel)⟩ d hM rfl hst hR kk
theorem cd_X1_43 (X : vCx p s m args c cc RX1 nL z0 D cy) {a1 a2 : Value} {r : Int32} {g' : Nat → va_E} {fr lo : Nat} (d : decode cc pc = .ok (.invokestatic 43, 3)) (hM : Ct0 l yJ9_max_7cf53 cJ9_max_7cf53 2 (some FieldType.int) fr lo z0 D cy n ad g [a1, a2] (some (.int r)) g') (hst : (st.map fun v => v.category).sum ≤ 8) (hR : fr + 1 ≤ R.frames ∧ 8 + (2 + 11) + lo ≤ R.locals ∧ cells ≤ R.cells ∧ slots ≤ R.slots) (kk : vV p l e R s m args below meth c nL z0 D cells slots Q n ad g' (pc + 3) L (.int r :: st)) : vV p l e R s m args below meth c nL z0 D cells slots Q n ad g pc L (a2 :: a1 :: st) := cl_X1_43 X d hM hst ⟨rfl, rfl, hR.1, hR.2.1, hR.2.2.1, hR.2.2.2⟩ (fun r1 n1 ad1 g1 hP => by
  obtain ⟨rfl, rfl, rfl, rfl⟩ := hP
  exact kk)
theorem cl_X1_46 (X : vCx p s m args c cc RX1 nL z0 D cy) {a1 : Value} {P : CtP} {rm : Room} {mc ms : Nat} (d : decode cc pc = .ok (.invokestatic 46, 3)) (hM : CtG l yJ9_abs_0f7a4 cJ9_abs_0f7a4 1 (some FieldType.int) rm z0 D cy n ad g [a1] P mc ms) (hst : (st.map fun v => v.category).sum ≤ 8) (hR : rm.cells = mc ∧ rm.slots = ms ∧ rm.frames + 1 ≤ R.frames ∧ 8 + (1 + 11) + rm.locals ≤ R.locals ∧ cells + mc ≤ R.cells ∧ slots + ms ≤ R.slots) (kk : ∀ (r : Option Value) (n' : Nat) (ad' : Nat → Nat) (g' : Nat → va_E), P r n' ad' g' → vV p l e R s m args below meth c nL z0 D (cells + mc) (slots + ms) Q n' ad' g' (pc + 3) L (r.toList ++ st)) : vV p l e R s m args below meth c nL z0 D cells slots Q n ad g pc L (a1 :: st) := v_callS (As := [a1]) X wm_X1_46 wt_J9_abs_0f7a4 wz_J9 wc_J9_abs_0f7a4 ⟨by decide, by decide, (show (parseMethodDescriptor yJ9_abs_0f7a4.desc).map (fun d => d.parameters.length) = some 1 from by decide +kernel)⟩ d hM rfl hst hR kk
theorem cd_X1_46 (X : vCx p s m args c cc RX1 nL z0 D cy) {a1 : Value} {r : Int32} {g' : Nat → va_E} {fr lo : Nat} (d : decode cc pc = .ok (.invokestatic 46, 3)) (hM : Ct0 l yJ9_abs_0f7a4 cJ9_abs_0f7a4 1 (some FieldType.int) fr lo z0 D cy n ad g [a1] (some (.int r)) g') (hst : (st.map fun v => v.category).sum ≤ 8) (hR : fr + 1 ≤ R.frames ∧ 8 + (1 + 11) + lo ≤ R.locals ∧ cells ≤ R.cells ∧ slots ≤ R.slots) (kk : vV p l e R s m args below meth c nL z0 D cells slots Q n ad g' (pc + 3) L (.int r :: st)) : vV p l e R s m args below meth c nL z0 D cells slots Q n ad g pc L (a1 :: st) := cl_X1_46 X d hM hst ⟨rfl, rfl, hR.1, hR.2.1, hR.2.2.1, hR.2.2.2⟩ (fun r1 n1 ad1 g1 hP => by
  obtain ⟨rfl, rfl, rfl, rfl⟩ := hP
  exact kk)
theorem cl_X2_122 (X : vCx p s m args c cc RX2 nL z0 D cy) {a1 : Value} {P : CtP} {rm : Room} {mc ms : Nat} (d : decode cc pc = .ok (.invokevirtual 122, 3)) (hM : CtG l yX3_leavesOn cX3_leavesOn 2 (some FieldType.int) rm z0 D cy n ad g [.ref (ad k), a1] P mc ms) {e1 : va_E} (hrecv : vAt n g k e1) {fs : List Value} (he : e1 = .inr (3, fs)) (hst : (st.map fun v => v.category).sum ≤ 8) (hR : rm.cells = mc ∧ rm.slots = ms ∧ rm.frames + 1 ≤ R.frames ∧ 8 + (2 + 11) + rm.locals ≤ R.locals ∧ cells + mc ≤ R.cells ∧ slots + ms ≤ R.slots) (kk : ∀ (r : Option Value) (n' : Nat) (ad' : Nat → Nat) (g' : Nat → va_E), P r n' ad' g' → vV p l e R s m args below meth c nL z0 D (cells + mc) (slots + ms) Q n' ad' g' (pc + 3) L (r.toList ++ st)) : vV p l e R s m args below meth c nL z0 D cells slots Q n ad g pc L (a1 :: .ref (ad k) :: st) := v_callV (As := [a1]) X wm_X2_122 wi_X3_leavesOn ws_X3_leavesOn wz_X3 wc_X3_leavesOn ⟨rfl, by decide, by decide, (show (parseMethodDescriptor yX3_leavesOn.desc).map (fun d => d.parameters.length) = some 1 from by decide +kernel)⟩ rfl d hM (he ▸ hrecv) rfl hst hR kk
theorem cd_X2_122 (X : vCx p s m args c cc RX2 nL z0 D cy) {a1 : Value} {r : Int32} {g' : Nat → va_E} {fr lo : Nat} (d : decode cc pc = .ok (.invokevirtual 122, 3)) (hM : Ct0 l yX3_leavesOn cX3_leavesOn 2 (some FieldType.int) fr lo z0 D cy n ad g [.ref (ad k), a1] (some (.int r)) g') {e1 : va_E} (hrecv : vAt n g k e1) {fs : List Value} (he : e1 = .inr (3, fs)) (hst : (st.map fun v => v.category).sum ≤ 8) (hR : fr + 1 ≤ R.frames ∧ 8 + (2 + 11) + lo ≤ R.locals ∧ cells ≤ R.cells ∧ slots ≤ R.slots) (kk : vV p l e R s m args below meth c nL z0 D cells slots Q n ad g' (pc + 3) L (.int r :: st)) : vV p l e R s m args below meth c nL z0 D cells slots Q n ad g pc L (a1 :: .ref (ad k) :: st) := cl_X2_122 X d hM hrecv he hst ⟨rfl, rfl, hR.1, hR.2.1, hR.2.2.1, hR.2.2.2⟩ (fun r1 n1 ad1 g1 hP => by
  obtain ⟨rfl, rfl, rfl, rfl⟩ := hP
  exact kk)
theorem cl_X2_125 (X : vCx p s m args c cc RX2 nL z0 D cy) {a1 : Value} {P : CtP} {rm : Room} {mc ms : Nat} (d : decode cc pc = .ok (.invokevirtual 125, 3)) (hM : CtG l yX0_clog cX0_clog 2 none rm z0 D cy n ad g [.ref (ad k), a1] P mc ms) {e1 : va_E} (hrecv : vAt n g k e1) {fs : List Value} (he : e1 = .inr (0, fs)) (hst : (st.map fun v => v.category).sum ≤ 8) (hR : rm.cells = mc ∧ rm.slots = ms ∧ rm.frames + 1 ≤ R.frames ∧ 8 + (2 + 11) + rm.locals ≤ R.locals ∧ cells + mc ≤ R.cells ∧ slots + ms ≤ R.slots) (kk : ∀ (r : Option Value) (n' : Nat) (ad' : Nat → Nat) (g' : Nat → va_E), P r n' ad' g' → vV p l e R s m args below meth c nL z0 D (cells + mc) (slots + ms) Q n' ad' g' (pc + 3) L (r.toList ++ st)) : vV p l e R s m args below meth c nL z0 D cells slots Q n ad g pc L (a1 :: .ref (ad k) :: st) := v_callV (As := [a1]) X wm_X2_125 wi_X0_clog ws_X0_clog wz_X0 wc_X0_clog ⟨rfl, by decide, by decide, (show (parseMethodDescriptor yX0_clog.desc).map (fun d => d.parameters.length) = some 1 from by decide +kernel)⟩ rfl d hM (he ▸ hrecv) rfl hst hR kk
theorem cd_X2_125 (X : vCx p s m args c cc RX2 nL z0 D cy) {a1 : Value} {g' : Nat → va_E} {fr lo : Nat} (d : decode cc pc = .ok (.invokevirtual 125, 3)) (hM : Ct0 l yX0_clog cX0_clog 2 none fr lo z0 D cy n ad g [.ref (ad k), a1] none g') {e1 : va_E} (hrecv : vAt n g k e1) {fs : List Value} (he : e1 = .inr (0, fs)) (hst : (st.map fun v => v.category).sum ≤ 8) (hR : fr + 1 ≤ R.frames ∧ 8 + (2 + 11) + lo ≤ R.locals ∧ cells ≤ R.cells ∧ slots ≤ R.slots) (kk : vV p l e R s m args below meth c nL z0 D cells slots Q n ad g' (pc + 3) L st) : vV p l e R s m args below meth c nL z0 D cells slots Q n ad g pc L (a1 :: .ref (ad k) :: st) := cl_X2_125 X d hM hrecv he hst ⟨rfl, rfl, hR.1, hR.2.1, hR.2.2.1, hR.2.2.2⟩ (fun r1 n1 ad1 g1 hP => by
  obtain ⟨rfl, rfl, rfl, rfl⟩ := hP
  exact kk)
theorem cl_L_118 (X : vCx p s m args c cc RL nL z0 D cy) {a1 : Value} {P : CtP} {rm : Room} {mc ms : Nat} (d : decode cc pc = .ok (.invokevirtual 118, 3)) (hM : CtG l yX4_count cX4_count 2 (some FieldType.int) rm z0 D cy n ad g [.ref (ad k), a1] P mc ms) {e1 : va_E} (hrecv : vAt n g k e1) {fs : List Value} (he : e1 = .inr (4, fs)) (hst : (st.map fun v => v.category).sum ≤ 8) (hR : rm.cells = mc ∧ rm.slots = ms ∧ rm.frames + 1 ≤ R.frames ∧ 8 + (2 + 11) + rm.locals ≤ R.locals ∧ cells + mc ≤ R.cells ∧ slots + ms ≤ R.slots) (kk : ∀ (r : Option Value) (n' : Nat) (ad' : Nat → Nat) (g' : Nat → va_E), P r n' ad' g' → vV p l e R s m args below meth c nL z0 D (cells + mc) (slots + ms) Q n' ad' g' (pc + 3) L (r.toList ++ st)) : vV p l e R s m args below meth c nL z0 D cells slots Q n ad g pc L (a1 :: .ref (ad k) :: st) := v_callV (As := [a1]) X wm_L_118 wi_X4_count ws_X4_count wz_X4 wc_X4_count ⟨rfl, by decide, by decide, (show (parseMethodDescriptor yX4_count.desc).map (fun d => d.parameters.length) = some 1 from by decide +kernel)⟩ rfl d hM (he ▸ hrecv) rfl hst hR kk
theorem cd_L_118 (X : vCx p s m args c cc RL nL z0 D cy) {a1 : Value} {r : Int32} {g' : Nat → va_E} {fr lo : Nat} (d : decode cc pc = .ok (.invokevirtual 118, 3)) (hM : Ct0 l yX4_count cX4_count 2 (some FieldType.int) fr lo z0 D cy n ad g [.ref (ad k), a1] (some (.int r)) g') {e1 : va_E} (hrecv : vAt n g k e1) {fs : List Value} (he : e1 = .inr (4, fs)) (hst : (st.map fun v => v.category).sum ≤ 8) (hR : fr + 1 ≤ R.frames ∧ 8 + (2 + 11) + lo ≤ R.locals ∧ cells ≤ R.cells ∧ slots ≤ R.slots) (kk : vV p l e R s m args below meth c nL z0 D cells slots Q n ad g' (pc + 3) L (.int r :: st)) : vV p l e R s m args below meth c nL z0 D cells slots Q n ad g pc L (a1 :: .ref (ad k) :: st) := cl_L_118 X d hM hrecv he hst ⟨rfl, rfl, hR.1, hR.2.1, hR.2.2.1, hR.2.2.2⟩ (fun r1 n1 ad1 g1 hP => by
  obtain ⟨rfl, rfl, rfl, rfl⟩ := hP
  exact kk)
theorem cl_X4_125 (X : vCx p s m args c cc RX4 nL z0 D cy) {a1 : Value} {P : CtP} {rm : Room} {mc ms : Nat} (d : decode cc pc = .ok (.invokevirtual 125, 3)) (hM : CtG l yX2_total cX2_total 2 (some FieldType.int) rm z0 D cy n ad g [.ref (ad k), a1] P mc ms) {e1 : va_E} (hrecv : vAt n g k e1) {fs : List Value} (he : e1 = .inr (2, fs)) (hst : (st.map fun v => v.category).sum ≤ 8) (hR : rm.cells = mc ∧ rm.slots = ms ∧ rm.frames + 1 ≤ R.frames ∧ 8 + (2 + 11) + rm.locals ≤ R.locals ∧ cells + mc ≤ R.cells ∧ slots + ms ≤ R.slots) (kk : ∀ (r : Option Value) (n' : Nat) (ad' : Nat → Nat) (g' : Nat → va_E), P r n' ad' g' → vV p l e R s m args below meth c nL z0 D (cells + mc) (slots + ms) Q n' ad' g' (pc + 3) L (r.toList ++ st)) : vV p l e R s m args below meth c nL z0 D cells slots Q n ad g pc L (a1 :: .ref (ad k) :: st) := v_callV (As := [a1]) X wm_X4_125 wi_X2_total ws_X2_total wz_X2 wc_X2_total ⟨rfl, by decide, by decide, (show (parseMethodDescriptor yX2_total.desc).map (fun d => d.parameters.length) = some 1 from by decide +kernel)⟩ rfl d hM (he ▸ hrecv) rfl hst hR kk
theorem cd_X4_125 (X : vCx p s m args c cc RX4 nL z0 D cy) {a1 : Value} {r : Int32} {g' : Nat → va_E} {fr lo : Nat} (d : decode cc pc = .ok (.invokevirtual 125, 3)) (hM : Ct0 l yX2_total cX2_total 2 (some FieldType.int) fr lo z0 D cy n ad g [.ref (ad k), a1] (some (.int r)) g') {e1 : va_E} (hrecv : vAt n g k e1) {fs : List Value} (he : e1 = .inr (2, fs)) (hst : (st.map fun v => v.category).sum ≤ 8) (hR : fr + 1 ≤ R.frames ∧ 8 + (2 + 11) + lo ≤ R.locals ∧ cells ≤ R.cells ∧ slots ≤ R.slots) (kk : vV p l e R s m args below meth c nL z0 D cells slots Q n ad g' (pc + 3) L (.int r :: st)) : vV p l e R s m args below meth c nL z0 D cells slots Q n ad g pc L (a1 :: .ref (ad k) :: st) := cl_X4_125 X d hM hrecv he hst ⟨rfl, rfl, hR.1, hR.2.1, hR.2.2.1, hR.2.2.2⟩ (fun r1 n1 ad1 g1 hP => by
  obtain ⟨rfl, rfl, rfl, rfl⟩ := hP
  exact kk)
theorem cl_X2_142 (X : vCx p s m args c cc RX2 nL z0 D cy) {P : CtP} {rm : Room} {mc ms : Nat} (d : decode cc pc = .ok (.invokevirtual 142, 3)) (hM : CtG l yX2_allWater cX2_allWater 3 (some FieldType.int) rm z0 D cy n ad g [.ref (ad k)] P mc ms) {e1 : va_E} (hrecv : vAt n g k e1) {fs : List Value} (he : e1 = .inr (2, fs)) (hst : (st.map fun v => v.category).sum ≤ 8) (hR : rm.cells = mc ∧ rm.slots = ms ∧ rm.frames + 1 ≤ R.frames ∧ 8 + (3 + 11) + rm.locals ≤ R.locals ∧ cells + mc ≤ R.cells ∧ slots + ms ≤ R.slots) (kk : ∀ (r : Option Value) (n' : Nat) (ad' : Nat → Nat) (g' : Nat → va_E), P r n' ad' g' → vV p l e R s m args below meth c nL z0 D (cells + mc) (slots + ms) Q n' ad' g' (pc + 3) L (r.toList ++ st)) : vV p l e R s m args below meth c nL z0 D cells slots Q n ad g pc L (.ref (ad k) :: st) := v_callV (As := []) X wm_X2_142 wi_X2_allWater ws_X2_allWater wz_X2 wc_X2_allWater ⟨rfl, by decide, by decide, (show (parseMethodDescriptor yX2_allWater.desc).map (fun d => d.parameters.length) = some 0 from by decide +kernel)⟩ rfl d hM (he ▸ hrecv) rfl hst hR kk
theorem cd_X2_142 (X : vCx p s m args c cc RX2 nL z0 D cy) {r : Int32} {g' : Nat → va_E} {fr lo : Nat} (d : decode cc pc = .ok (.invokevirtual 142, 3)) (hM : Ct0 l yX2_allWater cX2_allWater 3 (some FieldType.int) fr lo z0 D cy n ad g [.ref (ad k)] (some (.int r)) g') {e1 : va_E} (hrecv : vAt n g k e1) {fs : List Value} (he : e1 = .inr (2, fs)) (hst : (st.map fun v => v.category).sum ≤ 8) (hR : fr + 1 ≤ R.frames ∧ 8 + (3 + 11) + lo ≤ R.locals ∧ cells ≤ R.cells ∧ slots ≤ R.slots) (kk : vV p l e R s m args below meth c nL z0 D cells slots Q n ad g' (pc + 3) L (.int r :: st)) : vV p l e R s m args below meth c nL z0 D cells slots Q n ad g pc L (.ref (ad k) :: st) := cl_X2_142 X d hM hrecv he hst ⟨rfl, rfl, hR.1, hR.2.1, hR.2.2.1, hR.2.2.2⟩ (fun r1 n1 ad1 g1 hP => by
  obtain ⟨rfl, rfl, rfl, rfl⟩ := hP
  exact kk)
theorem cl_X2_145 (X : vCx p s m args c cc RX2 nL z0 D cy) {P : CtP} {rm : Room} {mc ms : Nat} (d : decode cc pc = .ok (.invokevirtual 145, 3)) (hM : CtG l yX2_allWatered cX2_allWatered 3 (some FieldType.int) rm z0 D cy n ad g [.ref (ad k)] P mc ms) {e1 : va_E} (hrecv : vAt n g k e1) {fs : List Value} (he : e1 = .inr (2, fs)) (hst : (st.map fun v => v.category).sum ≤ 8) (hR : rm.cells = mc ∧ rm.slots = ms ∧ rm.frames + 1 ≤ R.frames ∧ 8 + (3 + 11) + rm.locals ≤ R.locals ∧ cells + mc ≤ R.cells ∧ slots + ms ≤ R.slots) (kk : ∀ (r : Option Value) (n' : Nat) (ad' : Nat → Nat) (g' : Nat → va_E), P r n' ad' g' → vV p l e R s m args below meth c nL z0 D (cells + mc) (slots + ms) Q n' ad' g' (pc + 3) L (r.toList ++ st)) : vV p l e R s m args below meth c nL z0 D cells slots Q n ad g pc L (.ref (ad k) :: st) := v_callV (As := []) X wm_X2_145 wi_X2_allWatered ws_X2_allWatered wz_X2 wc_X2_allWatered ⟨rfl, by decide, by decide, (show (parseMethodDescriptor yX2_allWatered.desc).map (fun d => d.parameters.length) = some 0 from by decide +kernel)⟩ rfl d hM (he ▸ hrecv) rfl hst hR kk
theorem cd_X2_145 (X : vCx p s m args c cc RX2 nL z0 D cy) {r : Int32} {g' : Nat → va_E} {fr lo : Nat} (d : decode cc pc = .ok (.invokevirtual 145, 3)) (hM : Ct0 l yX2_allWatered cX2_allWatered 3 (some FieldType.int) fr lo z0 D cy n ad g [.ref (ad k)] (some (.int r)) g') {e1 : va_E} (hrecv : vAt n g k e1) {fs : List Value} (he : e1 = .inr (2, fs)) (hst : (st.map fun v => v.category).sum ≤ 8) (hR : fr + 1 ≤ R.frames ∧ 8 + (3 + 11) + lo ≤ R.locals ∧ cells ≤ R.cells ∧ slots ≤ R.slots) (kk : vV p l e R s m args below meth c nL z0 D cells slots Q n ad g' (pc + 3) L (.int r :: st)) : vV p l e R s m args below meth c nL z0 D cells slots Q n ad g pc L (.ref (ad k) :: st) := cl_X2_145 X d hM hrecv he hst ⟨rfl, rfl, hR.1, hR.2.1, hR.2.2.1, hR.2.2.2⟩ (fun r1 n1 ad1 g1 hP => by
  obtain ⟨rfl, rfl, rfl, rfl⟩ := hP
  exact kk)
theorem cl_X2_148 (X : vCx p s m args c cc RX2 nL z0 D cy) {P : CtP} {rm : Room} {mc ms : Nat} (d : decode cc pc = .ok (.invokevirtual 148, 3)) (hM : CtG l yX2_openValves cX2_openValves 3 (some FieldType.int) rm z0 D cy n ad g [.ref (ad k)] P mc ms) {e1 : va_E} (hrecv : vAt n g k e1) {fs : List Value} (he : e1 = .inr (2, fs)) (hst : (st.map fun v => v.category).sum ≤ 8) (hR : rm.cells = mc ∧ rm.slots = ms ∧ rm.frames + 1 ≤ R.frames ∧ 8 + (3 + 11) + rm.locals ≤ R.locals ∧ cells + mc ≤ R.cells ∧ slots + ms ≤ R.slots) (kk : ∀ (r : Option Value) (n' : Nat) (ad' : Nat → Nat) (g' : Nat → va_E), P r n' ad' g' → vV p l e R s m args below meth c nL z0 D (cells + mc) (slots + ms) Q n' ad' g' (pc + 3) L (r.toList ++ st)) : vV p l e R s m args below meth c nL z0 D cells slots Q n ad g pc L (.ref (ad k) :: st) := v_callV (As := []) X wm_X2_148 wi_X2_openValves ws_X2_openValves wz_X2 wc_X2_openValves ⟨rfl, by decide, by decide, (show (parseMethodDescriptor yX2_openValves.desc).map (fun d => d.parameters.length) = some 0 from by decide +kernel)⟩ rfl d hM (he ▸ hrecv) rfl hst hR kk
theorem cd_X2_148 (X : vCx p s m args c cc RX2 nL z0 D cy) {r : Int32} {g' : Nat → va_E} {fr lo : Nat} (d : decode cc pc = .ok (.invokevirtual 148, 3)) (hM : Ct0 l yX2_openValves cX2_openValves 3 (some FieldType.int) fr lo z0 D cy n ad g [.ref (ad k)] (some (.int r)) g') {e1 : va_E} (hrecv : vAt n g k e1) {fs : List Value} (he : e1 = .inr (2, fs)) (hst : (st.map fun v => v.category).sum ≤ 8) (hR : fr + 1 ≤ R.frames ∧ 8 + (3 + 11) + lo ≤ R.locals ∧ cells ≤ R.cells ∧ slots ≤ R.slots) (kk : vV p l e R s m args below meth c nL z0 D cells slots Q n ad g' (pc + 3) L (.int r :: st)) : vV p l e R s m args below meth c nL z0 D cells slots Q n ad g pc L (.ref (ad k) :: st) := cl_X2_148 X d hM hrecv he hst ⟨rfl, rfl, hR.1, hR.2.1, hR.2.2.1, hR.2.2.2⟩ (fun r1 n1 ad1 g1 hP => by
  obtain ⟨rfl, rfl, rfl, rfl⟩ := hP
  exact kk)
theorem cl_L_115 (X : vCx p s m args c cc RL nL z0 D cy) {a1 a2 : Value} {P : CtP} {rm : Room} {mc ms : Nat} (d : decode cc pc = .ok (.invokevirtual 115, 3)) (hM : CtG l yX4_foresee cX4_foresee 4 (some FieldType.int) rm z0 D cy n ad g [.ref (ad k), a1, a2] P mc ms) {e1 : va_E} (hrecv : vAt n g k e1) {fs : List Value} (he : e1 = .inr (4, fs)) (hst : (st.map fun v => v.category).sum ≤ 8) (hR : rm.cells = mc ∧ rm.slots = ms ∧ rm.frames + 1 ≤ R.frames ∧ 8 + (4 + 11) + rm.locals ≤ R.locals ∧ cells + mc ≤ R.cells ∧ slots + ms ≤ R.slots) (kk : ∀ (r : Option Value) (n' : Nat) (ad' : Nat → Nat) (g' : Nat → va_E), P r n' ad' g' → vV p l e R s m args below meth c nL z0 D (cells + mc) (slots + ms) Q n' ad' g' (pc + 3) L (r.toList ++ st)) : vV p l e R s m args below meth c nL z0 D cells slots Q n ad g pc L (a2 :: a1 :: .ref (ad k) :: st) := v_callV (As := [a1, a2]) X wm_L_115 wi_X4_foresee ws_X4_foresee wz_X4 wc_X4_foresee ⟨rfl, by decide, by decide, (show (parseMethodDescriptor yX4_foresee.desc).map (fun d => d.parameters.length) = some 2 from by decide +kernel)⟩ rfl d hM (he ▸ hrecv) rfl hst hR kk
theorem cd_L_115 (X : vCx p s m args c cc RL nL z0 D cy) {a1 a2 : Value} {r : Int32} {g' : Nat → va_E} {fr lo : Nat} (d : decode cc pc = .ok (.invokevirtual 115, 3)) (hM : Ct0 l yX4_foresee cX4_foresee 4 (some FieldType.int) fr lo z0 D cy n ad g [.ref (ad k), a1, a2] (some (.int r)) g') {e1 : va_E} (hrecv : vAt n g k e1) {fs : List Value} (he : e1 = .inr (4, fs)) (hst : (st.map fun v => v.category).sum ≤ 8) (hR : fr + 1 ≤ R.frames ∧ 8 + (4 + 11) + lo ≤ R.locals ∧ cells ≤ R.cells ∧ slots ≤ R.slots) (kk : vV p l e R s m args below meth c nL z0 D cells slots Q n ad g' (pc + 3) L (.int r :: st)) : vV p l e R s m args below meth c nL z0 D cells slots Q n ad g pc L (a2 :: a1 :: .ref (ad k) :: st) := cl_L_115 X d hM hrecv he hst ⟨rfl, rfl, hR.1, hR.2.1, hR.2.2.1, hR.2.2.2⟩ (fun r1 n1 ad1 g1 hP => by
  obtain ⟨rfl, rfl, rfl, rfl⟩ := hP
  exact kk)
theorem cl_X4_128 (X : vCx p s m args c cc RX4 nL z0 D cy) {a1 : Value} {P : CtP} {rm : Room} {mc ms : Nat} (d : decode cc pc = .ok (.invokevirtual 128, 3)) (hM : CtG l yX2_copy cX2_copy 3 none rm z0 D cy n ad g [.ref (ad k), a1] P mc ms) {e1 : va_E} (hrecv : vAt n g k e1) {fs : List Value} (he : e1 = .inr (2, fs)) (hst : (st.map fun v => v.category).sum ≤ 8) (hR : rm.cells = mc ∧ rm.slots = ms ∧ rm.frames + 1 ≤ R.frames ∧ 8 + (3 + 11) + rm.locals ≤ R.locals ∧ cells + mc ≤ R.cells ∧ slots + ms ≤ R.slots) (kk : ∀ (r : Option Value) (n' : Nat) (ad' : Nat → Nat) (g' : Nat → va_E), P r n' ad' g' → vV p l e R s m args below meth c nL z0 D (cells + mc) (slots + ms) Q n' ad' g' (pc + 3) L (r.toList ++ st)) : vV p l e R s m args below meth c nL z0 D cells slots Q n ad g pc L (a1 :: .ref (ad k) :: st) := v_callV (As := [a1]) X wm_X4_128 wi_X2_copy ws_X2_copy wz_X2 wc_X2_copy ⟨rfl, by decide, by decide, (show (parseMethodDescriptor yX2_copy.desc).map (fun d => d.parameters.length) = some 1 from by decide +kernel)⟩ rfl d hM (he ▸ hrecv) rfl hst hR kk
theorem cd_X4_128 (X : vCx p s m args c cc RX4 nL z0 D cy) {a1 : Value} {g' : Nat → va_E} {fr lo : Nat} (d : decode cc pc = .ok (.invokevirtual 128, 3)) (hM : Ct0 l yX2_copy cX2_copy 3 none fr lo z0 D cy n ad g [.ref (ad k), a1] none g') {e1 : va_E} (hrecv : vAt n g k e1) {fs : List Value} (he : e1 = .inr (2, fs)) (hst : (st.map fun v => v.category).sum ≤ 8) (hR : fr + 1 ≤ R.frames ∧ 8 + (3 + 11) + lo ≤ R.locals ∧ cells ≤ R.cells ∧ slots ≤ R.slots) (kk : vV p l e R s m args below meth c nL z0 D cells slots Q n ad g' (pc + 3) L st) : vV p l e R s m args below meth c nL z0 D cells slots Q n ad g pc L (a1 :: .ref (ad k) :: st) := cl_X4_128 X d hM hrecv he hst ⟨rfl, rfl, hR.1, hR.2.1, hR.2.2.1, hR.2.2.2⟩ (fun r1 n1 ad1 g1 hP => by
  obtain ⟨rfl, rfl, rfl, rfl⟩ := hP
  exact kk)
theorem cl_X2_51 (X : vCx p s m args c cc RX2 nL z0 D cy) {a1 : Value} {P : CtP} {rm : Room} {mc ms : Nat} (d : decode cc pc = .ok (.invokevirtual 51, 3)) (hM : CtG l yX0_copy cX0_copy 2 none rm z0 D cy n ad g [.ref (ad k), a1] P mc ms) {e1 : va_E} (hrecv : vAt n g k e1) {fs : List Value} (he : e1 = .inr (0, fs)) (hst : (st.map fun v => v.category).sum ≤ 8) (hR : rm.cells = mc ∧ rm.slots = ms ∧ rm.frames + 1 ≤ R.frames ∧ 8 + (2 + 11) + rm.locals ≤ R.locals ∧ cells + mc ≤ R.cells ∧ slots + ms ≤ R.slots) (kk : ∀ (r : Option Value) (n' : Nat) (ad' : Nat → Nat) (g' : Nat → va_E), P r n' ad' g' → vV p l e R s m args below meth c nL z0 D (cells + mc) (slots + ms) Q n' ad' g' (pc + 3) L (r.toList ++ st)) : vV p l e R s m args below meth c nL z0 D cells slots Q n ad g pc L (a1 :: .ref (ad k) :: st) := v_callV (As := [a1]) X wm_X2_51 wi_X0_copy ws_X0_copy wz_X0 wc_X0_copy ⟨rfl, by decide, by decide, (show (parseMethodDescriptor yX0_copy.desc).map (fun d => d.parameters.length) = some 1 from by decide +kernel)⟩ rfl d hM (he ▸ hrecv) rfl hst hR kk
theorem cd_X2_51 (X : vCx p s m args c cc RX2 nL z0 D cy) {a1 : Value} {g' : Nat → va_E} {fr lo : Nat} (d : decode cc pc = .ok (.invokevirtual 51, 3)) (hM : Ct0 l yX0_copy cX0_copy 2 none fr lo z0 D cy n ad g [.ref (ad k), a1] none g') {e1 : va_E} (hrecv : vAt n g k e1) {fs : List Value} (he : e1 = .inr (0, fs)) (hst : (st.map fun v => v.category).sum ≤ 8) (hR : fr + 1 ≤ R.frames ∧ 8 + (2 + 11) + lo ≤ R.locals ∧ cells ≤ R.cells ∧ slots ≤ R.slots) (kk : vV p l e R s m args below meth c nL z0 D cells slots Q n ad g' (pc + 3) L st) : vV p l e R s m args below meth c nL z0 D cells slots Q n ad g pc L (a1 :: .ref (ad k) :: st) := cl_X2_51 X d hM hrecv he hst ⟨rfl, rfl, hR.1, hR.2.1, hR.2.2.1, hR.2.2.2⟩ (fun r1 n1 ad1 g1 hP => by
  obtain ⟨rfl, rfl, rfl, rfl⟩ := hP
  exact kk)
theorem cl_X2_55 (X : vCx p s m args c cc RX2 nL z0 D cy) {a1 : Value} {P : CtP} {rm : Room} {mc ms : Nat} (d : decode cc pc = .ok (.invokevirtual 55, 3)) (hM : CtG l yX1_copy cX1_copy 2 none rm z0 D cy n ad g [.ref (ad k), a1] P mc ms) {e1 : va_E} (hrecv : vAt n g k e1) {fs : List Value} (he : e1 = .inr (1, fs)) (hst : (st.map fun v => v.category).sum ≤ 8) (hR : rm.cells = mc ∧ rm.slots = ms ∧ rm.frames + 1 ≤ R.frames ∧ 8 + (2 + 11) + rm.locals ≤ R.locals ∧ cells + mc ≤ R.cells ∧ slots + ms ≤ R.slots) (kk : ∀ (r : Option Value) (n' : Nat) (ad' : Nat → Nat) (g' : Nat → va_E), P r n' ad' g' → vV p l e R s m args below meth c nL z0 D (cells + mc) (slots + ms) Q n' ad' g' (pc + 3) L (r.toList ++ st)) : vV p l e R s m args below meth c nL z0 D cells slots Q n ad g pc L (a1 :: .ref (ad k) :: st) := v_callV (As := [a1]) X wm_X2_55 wi_X1_copy ws_X1_copy wz_X1 wc_X1_copy ⟨rfl, by decide, by decide, (show (parseMethodDescriptor yX1_copy.desc).map (fun d => d.parameters.length) = some 1 from by decide +kernel)⟩ rfl d hM (he ▸ hrecv) rfl hst hR kk
theorem cd_X2_55 (X : vCx p s m args c cc RX2 nL z0 D cy) {a1 : Value} {g' : Nat → va_E} {fr lo : Nat} (d : decode cc pc = .ok (.invokevirtual 55, 3)) (hM : Ct0 l yX1_copy cX1_copy 2 none fr lo z0 D cy n ad g [.ref (ad k), a1] none g') {e1 : va_E} (hrecv : vAt n g k e1) {fs : List Value} (he : e1 = .inr (1, fs)) (hst : (st.map fun v => v.category).sum ≤ 8) (hR : fr + 1 ≤ R.frames ∧ 8 + (2 + 11) + lo ≤ R.locals ∧ cells ≤ R.cells ∧ slots ≤ R.slots) (kk : vV p l e R s m args below meth c nL z0 D cells slots Q n ad g' (pc + 3) L st) : vV p l e R s m args below meth c nL z0 D cells slots Q n ad g pc L (a1 :: .ref (ad k) :: st) := cl_X2_55 X d hM hrecv he hst ⟨rfl, rfl, hR.1, hR.2.1, hR.2.2.1, hR.2.2.2⟩ (fun r1 n1 ad1 g1 hP => by
  obtain ⟨rfl, rfl, rfl, rfl⟩ := hP
  exact kk)
theorem cl_X4_132 (X : vCx p s m args c cc RX4 nL z0 D cy) {P : CtP} {rm : Room} {mc ms : Nat} (d : decode cc pc = .ok (.invokevirtual 132, 3)) (hM : CtG l yX2_allWater cX2_allWater 3 (some FieldType.int) rm z0 D cy n ad g [.ref (ad k)] P mc ms) {e1 : va_E} (hrecv : vAt n g k e1) {fs : List Value} (he : e1 = .inr (2, fs)) (hst : (st.map fun v => v.category).sum ≤ 8) (hR : rm.cells = mc ∧ rm.slots = ms ∧ rm.frames + 1 ≤ R.frames ∧ 8 + (3 + 11) + rm.locals ≤ R.locals ∧ cells + mc ≤ R.cells ∧ slots + ms ≤ R.slots) (kk : ∀ (r : Option Value) (n' : Nat) (ad' : Nat → Nat) (g' : Nat → va_E), P r n' ad' g' → vV p l e R s m args below meth c nL z0 D (cells + mc) (slots + ms) Q n' ad' g' (pc + 3) L (r.toList ++ st)) : vV p l e R s m args below meth c nL z0 D cells slots Q n ad g pc L (.ref (ad k) :: st) := v_callV (As := []) X wm_X4_132 wi_X2_allWater ws_X2_allWater wz_X2 wc_X2_allWater ⟨rfl, by decide, by decide, (show (parseMethodDescriptor yX2_allWater.desc).map (fun d => d.parameters.length) = some 0 from by decide +kernel)⟩ rfl d hM (he ▸ hrecv) rfl hst hR kk
theorem cd_X4_132 (X : vCx p s m args c cc RX4 nL z0 D cy) {r : Int32} {g' : Nat → va_E} {fr lo : Nat} (d : decode cc pc = .ok (.invokevirtual 132, 3)) (hM : Ct0 l yX2_allWater cX2_allWater 3 (some FieldType.int) fr lo z0 D cy n ad g [.ref (ad k)] (some (.int r)) g') {e1 : va_E} (hrecv : vAt n g k e1) {fs : List Value} (he : e1 = .inr (2, fs)) (hst : (st.map fun v => v.category).sum ≤ 8) (hR : fr + 1 ≤ R.frames ∧ 8 + (3 + 11) + lo ≤ R.locals ∧ cells ≤ R.cells ∧ slots ≤ R.slots) (kk : vV p l e R s m args below meth c nL z0 D cells slots Q n ad g' (pc + 3) L (.int r :: st)) : vV p l e R s m args below meth c nL z0 D cells slots Q n ad g pc L (.ref (ad k) :: st) := cl_X4_132 X d hM hrecv he hst ⟨rfl, rfl, hR.1, hR.2.1, hR.2.2.1, hR.2.2.2⟩ (fun r1 n1 ad1 g1 hP => by
  obtain ⟨rfl, rfl, rfl, rfl⟩ := hP
  exact kk)
theorem cl_L_112 (X : vCx p s m args c cc RL nL z0 D cy) {a1 : Value} {P : CtP} {rm : Room} {mc ms : Nat} (d : decode cc pc = .ok (.invokevirtual 112, 3)) (hM : CtG l yX4_lasts cX4_lasts 2 (some FieldType.int) rm z0 D cy n ad g [.ref (ad k), a1] P mc ms) {e1 : va_E} (hrecv : vAt n g k e1) {fs : List Value} (he : e1 = .inr (4, fs)) (hst : (st.map fun v => v.category).sum ≤ 8) (hR : rm.cells = mc ∧ rm.slots = ms ∧ rm.frames + 1 ≤ R.frames ∧ 8 + (2 + 11) + rm.locals ≤ R.locals ∧ cells + mc ≤ R.cells ∧ slots + ms ≤ R.slots) (kk : ∀ (r : Option Value) (n' : Nat) (ad' : Nat → Nat) (g' : Nat → va_E), P r n' ad' g' → vV p l e R s m args below meth c nL z0 D (cells + mc) (slots + ms) Q n' ad' g' (pc + 3) L (r.toList ++ st)) : vV p l e R s m args below meth c nL z0 D cells slots Q n ad g pc L (a1 :: .ref (ad k) :: st) := v_callV (As := [a1]) X wm_L_112 wi_X4_lasts ws_X4_lasts wz_X4 wc_X4_lasts ⟨rfl, by decide, by decide, (show (parseMethodDescriptor yX4_lasts.desc).map (fun d => d.parameters.length) = some 1 from by decide +kernel)⟩ rfl d hM (he ▸ hrecv) rfl hst hR kk
theorem cd_L_112 (X : vCx p s m args c cc RL nL z0 D cy) {a1 : Value} {r : Int32} {g' : Nat → va_E} {fr lo : Nat} (d : decode cc pc = .ok (.invokevirtual 112, 3)) (hM : Ct0 l yX4_lasts cX4_lasts 2 (some FieldType.int) fr lo z0 D cy n ad g [.ref (ad k), a1] (some (.int r)) g') {e1 : va_E} (hrecv : vAt n g k e1) {fs : List Value} (he : e1 = .inr (4, fs)) (hst : (st.map fun v => v.category).sum ≤ 8) (hR : fr + 1 ≤ R.frames ∧ 8 + (2 + 11) + lo ≤ R.locals ∧ cells ≤ R.cells ∧ slots ≤ R.slots) (kk : vV p l e R s m args below meth c nL z0 D cells slots Q n ad g' (pc + 3) L (.int r :: st)) : vV p l e R s m args below meth c nL z0 D cells slots Q n ad g pc L (a1 :: .ref (ad k) :: st) := cl_L_112 X d hM hrecv he hst ⟨rfl, rfl, hR.1, hR.2.1, hR.2.2.1, hR.2.2.2⟩ (fun r1 n1 ad1 g1 hP => by
  obtain ⟨rfl, rfl, rfl, rfl⟩ := hP
  exact kk)
theorem cl_X4_139 (X : vCx p s m args c cc RX4 nL z0 D cy) {a1 a2 : Value} {P : CtP} {rm : Room} {mc ms : Nat} (d : decode cc pc = .ok (.invokevirtual 139, 3)) (hM : CtG l yX2_daysToThirst cX2_daysToThirst 6 (some FieldType.int) rm z0 D cy n ad g [.ref (ad k), a1, a2] P mc ms) {e1 : va_E} (hrecv : vAt n g k e1) {fs : List Value} (he : e1 = .inr (2, fs)) (hst : (st.map fun v => v.category).sum ≤ 8) (hR : rm.cells = mc ∧ rm.slots = ms ∧ rm.frames + 1 ≤ R.frames ∧ 8 + (6 + 11) + rm.locals ≤ R.locals ∧ cells + mc ≤ R.cells ∧ slots + ms ≤ R.slots) (kk : ∀ (r : Option Value) (n' : Nat) (ad' : Nat → Nat) (g' : Nat → va_E), P r n' ad' g' → vV p l e R s m args below meth c nL z0 D (cells + mc) (slots + ms) Q n' ad' g' (pc + 3) L (r.toList ++ st)) : vV p l e R s m args below meth c nL z0 D cells slots Q n ad g pc L (a2 :: a1 :: .ref (ad k) :: st) := v_callV (As := [a1, a2]) X wm_X4_139 wi_X2_daysToThirst ws_X2_daysToThirst wz_X2 wc_X2_daysToThirst ⟨rfl, by decide, by decide, (show (parseMethodDescriptor yX2_daysToThirst.desc).map (fun d => d.parameters.length) = some 2 from by decide +kernel)⟩ rfl d hM (he ▸ hrecv) rfl hst hR kk
theorem cd_X4_139 (X : vCx p s m args c cc RX4 nL z0 D cy) {a1 a2 : Value} {r : Int32} {g' : Nat → va_E} {fr lo : Nat} (d : decode cc pc = .ok (.invokevirtual 139, 3)) (hM : Ct0 l yX2_daysToThirst cX2_daysToThirst 6 (some FieldType.int) fr lo z0 D cy n ad g [.ref (ad k), a1, a2] (some (.int r)) g') {e1 : va_E} (hrecv : vAt n g k e1) {fs : List Value} (he : e1 = .inr (2, fs)) (hst : (st.map fun v => v.category).sum ≤ 8) (hR : fr + 1 ≤ R.frames ∧ 8 + (6 + 11) + lo ≤ R.locals ∧ cells ≤ R.cells ∧ slots ≤ R.slots) (kk : vV p l e R s m args below meth c nL z0 D cells slots Q n ad g' (pc + 3) L (.int r :: st)) : vV p l e R s m args below meth c nL z0 D cells slots Q n ad g pc L (a2 :: a1 :: .ref (ad k) :: st) := cl_X4_139 X d hM hrecv he hst ⟨rfl, rfl, hR.1, hR.2.1, hR.2.2.1, hR.2.2.2⟩ (fun r1 n1 ad1 g1 hP => by
  obtain ⟨rfl, rfl, rfl, rfl⟩ := hP
  exact kk)
theorem cl_L_127 (X : vCx p s m args c cc RL nL z0 D cy) {P : CtP} {rm : Room} {mc ms : Nat} (d : decode cc pc = .ok (.invokevirtual 127, 3)) (hM : CtG l yX6_pass cX6_pass 12 (some FieldType.int) rm z0 D cy n ad g [.ref (ad k)] P mc ms) {e1 : va_E} (hrecv : vAt n g k e1) {fs : List Value} (he : e1 = .inr (6, fs)) (hst : (st.map fun v => v.category).sum ≤ 8) (hR : rm.cells = mc ∧ rm.slots = ms ∧ rm.frames + 1 ≤ R.frames ∧ 8 + (12 + 11) + rm.locals ≤ R.locals ∧ cells + mc ≤ R.cells ∧ slots + ms ≤ R.slots) (kk : ∀ (r : Option Value) (n' : Nat) (ad' : Nat → Nat) (g' : Nat → va_E), P r n' ad' g' → vV p l e R s m args below meth c nL z0 D (cells + mc) (slots + ms) Q n' ad' g' (pc + 3) L (r.toList ++ st)) : vV p l e R s m args below meth c nL z0 D cells slots Q n ad g pc L (.ref (ad k) :: st) := v_callV (As := []) X wm_L_127 wi_X6_pass ws_X6_pass wz_X6 wc_X6_pass ⟨rfl, by decide, by decide, (show (parseMethodDescriptor yX6_pass.desc).map (fun d => d.parameters.length) = some 0 from by decide +kernel)⟩ rfl d hM (he ▸ hrecv) rfl hst hR kk
theorem cd_L_127 (X : vCx p s m args c cc RL nL z0 D cy) {r : Int32} {g' : Nat → va_E} {fr lo : Nat} (d : decode cc pc = .ok (.invokevirtual 127, 3)) (hM : Ct0 l yX6_pass cX6_pass 12 (some FieldType.int) fr lo z0 D cy n ad g [.ref (ad k)] (some (.int r)) g') {e1 : va_E} (hrecv : vAt n g k e1) {fs : List Value} (he : e1 = .inr (6, fs)) (hst : (st.map fun v => v.category).sum ≤ 8) (hR : fr + 1 ≤ R.frames ∧ 8 + (12 + 11) + lo ≤ R.locals ∧ cells ≤ R.cells ∧ slots ≤ R.slots) (kk : vV p l e R s m args below meth c nL z0 D cells slots Q n ad g' (pc + 3) L (.int r :: st)) : vV p l e R s m args below meth c nL z0 D cells slots Q n ad g pc L (.ref (ad k) :: st) := cl_L_127 X d hM hrecv he hst ⟨rfl, rfl, hR.1, hR.2.1, hR.2.2.1, hR.2.2.2⟩ (fun r1 n1 ad1 g1 hP => by
  obtain ⟨rfl, rfl, rfl, rfl⟩ := hP
  exact kk)
theorem cl_X6_77 (X : vCx p s m args c cc RX6 nL z0 D cy) {a1 a2 : Value} {P : CtP} {rm : Room} {mc ms : Nat} (d : decode cc pc = .ok (.invokevirtual 77, 3)) (hM : CtG l yX6_pour cX6_pour 5 (some FieldType.int) rm z0 D cy n ad g [.ref (ad k), a1, a2] P mc ms) {e1 : va_E} (hrecv : vAt n g k e1) {fs : List Value} (he : e1 = .inr (6, fs)) (hst : (st.map fun v => v.category).sum ≤ 8) (hR : rm.cells = mc ∧ rm.slots = ms ∧ rm.frames + 1 ≤ R.frames ∧ 8 + (5 + 11) + rm.locals ≤ R.locals ∧ cells + mc ≤ R.cells ∧ slots + ms ≤ R.slots) (kk : ∀ (r : Option Value) (n' : Nat) (ad' : Nat → Nat) (g' : Nat → va_E), P r n' ad' g' → vV p l e R s m args below meth c nL z0 D (cells + mc) (slots + ms) Q n' ad' g' (pc + 3) L (r.toList ++ st)) : vV p l e R s m args below meth c nL z0 D cells slots Q n ad g pc L (a2 :: a1 :: .ref (ad k) :: st) := v_callV (As := [a1, a2]) X wm_X6_77 wi_X6_pour ws_X6_pour wz_X6 wc_X6_pour ⟨rfl, by decide, by decide, (show (parseMethodDescriptor yX6_pour.desc).map (fun d => d.parameters.length) = some 2 from by decide +kernel)⟩ rfl d hM (he ▸ hrecv) rfl hst hR kk
theorem cd_X6_77 (X : vCx p s m args c cc RX6 nL z0 D cy) {a1 a2 : Value} {r : Int32} {g' : Nat → va_E} {fr lo : Nat} (d : decode cc pc = .ok (.invokevirtual 77, 3)) (hM : Ct0 l yX6_pour cX6_pour 5 (some FieldType.int) fr lo z0 D cy n ad g [.ref (ad k), a1, a2] (some (.int r)) g') {e1 : va_E} (hrecv : vAt n g k e1) {fs : List Value} (he : e1 = .inr (6, fs)) (hst : (st.map fun v => v.category).sum ≤ 8) (hR : fr + 1 ≤ R.frames ∧ 8 + (5 + 11) + lo ≤ R.locals ∧ cells ≤ R.cells ∧ slots ≤ R.slots) (kk : vV p l e R s m args below meth c nL z0 D cells slots Q n ad g' (pc + 3) L (.int r :: st)) : vV p l e R s m args below meth c nL z0 D cells slots Q n ad g pc L (a2 :: a1 :: .ref (ad k) :: st) := cl_X6_77 X d hM hrecv he hst ⟨rfl, rfl, hR.1, hR.2.1, hR.2.2.1, hR.2.2.2⟩ (fun r1 n1 ad1 g1 hP => by
  obtain ⟨rfl, rfl, rfl, rfl⟩ := hP
  exact kk)
theorem cl_X6_71 (X : vCx p s m args c cc RX6 nL z0 D cy) {a1 a2 : Value} {P : CtP} {rm : Room} {mc ms : Nat} (d : decode cc pc = .ok (.invokestatic 71, 3)) (hM : CtG l yJ9_max_7cf53 cJ9_max_7cf53 2 (some FieldType.int) rm z0 D cy n ad g [a1, a2] P mc ms) (hst : (st.map fun v => v.category).sum ≤ 8) (hR : rm.cells = mc ∧ rm.slots = ms ∧ rm.frames + 1 ≤ R.frames ∧ 8 + (2 + 11) + rm.locals ≤ R.locals ∧ cells + mc ≤ R.cells ∧ slots + ms ≤ R.slots) (kk : ∀ (r : Option Value) (n' : Nat) (ad' : Nat → Nat) (g' : Nat → va_E), P r n' ad' g' → vV p l e R s m args below meth c nL z0 D (cells + mc) (slots + ms) Q n' ad' g' (pc + 3) L (r.toList ++ st)) : vV p l e R s m args below meth c nL z0 D cells slots Q n ad g pc L (a2 :: a1 :: st) := v_callS (As := [a1, a2]) X wm_X6_71 wt_J9_max_7cf53 wz_J9 wc_J9_max_7cf53 ⟨by decide, by decide, (show (parseMethodDescriptor yJ9_max_7cf53.desc).map (fun d => d.parameters.length) = some 2 from by decide +kernel)⟩ d hM rfl hst hR kk
theorem cd_X6_71 (X : vCx p s m args c cc RX6 nL z0 D cy) {a1 a2 : Value} {r : Int32} {g' : Nat → va_E} {fr lo : Nat} (d : decode cc pc = .ok (.invokestatic 71, 3)) (hM : Ct0 l yJ9_max_7cf53 cJ9_max_7cf53 2 (some FieldType.int) fr lo z0 D cy n ad g [a1, a2] (some (.int r)) g') (hst : (st.map fun v => v.category).sum ≤ 8) (hR : fr + 1 ≤ R.frames ∧ 8 + (2 + 11) + lo ≤ R.locals ∧ cells ≤ R.cells ∧ slots ≤ R.slots) (kk : vV p l e R s m args below meth c nL z0 D cells slots Q n ad g' (pc + 3) L (.int r :: st)) : vV p l e R s m args below meth c nL z0 D cells slots Q n ad g pc L (a2 :: a1 :: st) := cl_X6_71 X d hM hst ⟨rfl, rfl, hR.1, hR.2.1, hR.2.2.1, hR.2.2.2⟩ (fun r1 n1 ad1 g1 hP => by
  obtain ⟨rfl, rfl, rfl, rfl⟩ := hP
  exact kk)
theorem cl_X6_98 (X : vCx p s m args c cc RX6 nL z0 D cy) {a1 a2 : Value} {P : CtP} {rm : Room} {mc ms : Nat} (d : decode cc pc = .ok (.invokestatic 98, 3)) (hM : CtG l yJ9_min_7cf53 cJ9_min_7cf53 2 (some FieldType.int) rm z0 D cy n ad g [a1, a2] P mc ms) (hst : (st.map fun v => v.category).sum ≤ 8) (hR : rm.cells = mc ∧ rm.slots = ms ∧ rm.frames + 1 ≤ R.frames ∧ 8 + (2 + 11) + rm.locals ≤ R.locals ∧ cells + mc ≤ R.cells ∧ slots + ms ≤ R.slots) (kk : ∀ (r : Option Value) (n' : Nat) (ad' : Nat → Nat) (g' : Nat → va_E), P r n' ad' g' → vV p l e R s m args below meth c nL z0 D (cells + mc) (slots + ms) Q n' ad' g' (pc + 3) L (r.toList ++ st)) : vV p l e R s m args below meth c nL z0 D cells slots Q n ad g pc L (a2 :: a1 :: st) := v_callS (As := [a1, a2]) X wm_X6_98 wt_J9_min_7cf53 wz_J9 wc_J9_min_7cf53 ⟨by decide, by decide, (show (parseMethodDescriptor yJ9_min_7cf53.desc).map (fun d => d.parameters.length) = some 2 from by decide +kernel)⟩ d hM rfl hst hR kk
theorem cd_X6_98 (X : vCx p s m args c cc RX6 nL z0 D cy) {a1 a2 : Value} {r : Int32} {g' : Nat → va_E} {fr lo : Nat} (d : decode cc pc = .ok (.invokestatic 98, 3)) (hM : Ct0 l yJ9_min_7cf53 cJ9_min_7cf53 2 (some FieldType.int) fr lo z0 D cy n ad g [a1, a2] (some (.int r)) g') (hst : (st.map fun v => v.category).sum ≤ 8) (hR : fr + 1 ≤ R.frames ∧ 8 + (2 + 11) + lo ≤ R.locals ∧ cells ≤ R.cells ∧ slots ≤ R.slots) (kk : vV p l e R s m args below meth c nL z0 D cells slots Q n ad g' (pc + 3) L (.int r :: st)) : vV p l e R s m args below meth c nL z0 D cells slots Q n ad g pc L (a2 :: a1 :: st) := cl_X6_98 X d hM hst ⟨rfl, rfl, hR.1, hR.2.1, hR.2.2.1, hR.2.2.2⟩ (fun r1 n1 ad1 g1 hP => by
  obtain ⟨rfl, rfl, rfl, rfl⟩ := hP
  exact kk)
theorem cl_L_135 (X : vCx p s m args c cc RL nL z0 D cy) {a1 : Value} {P : CtP} {rm : Room} {mc ms : Nat} (d : decode cc pc = .ok (.invokevirtual 135, 3)) (hM : CtG l yX6_isSame cX6_isSame 10 (some FieldType.boolean) rm z0 D cy n ad g [.ref (ad k), a1] P mc ms) {e1 : va_E} (hrecv : vAt n g k e1) {fs : List Value} (he : e1 = .inr (6, fs)) (hst : (st.map fun v => v.category).sum ≤ 8) (hR : rm.cells = mc ∧ rm.slots = ms ∧ rm.frames + 1 ≤ R.frames ∧ 8 + (10 + 11) + rm.locals ≤ R.locals ∧ cells + mc ≤ R.cells ∧ slots + ms ≤ R.slots) (kk : ∀ (r : Option Value) (n' : Nat) (ad' : Nat → Nat) (g' : Nat → va_E), P r n' ad' g' → vV p l e R s m args below meth c nL z0 D (cells + mc) (slots + ms) Q n' ad' g' (pc + 3) L (r.toList ++ st)) : vV p l e R s m args below meth c nL z0 D cells slots Q n ad g pc L (a1 :: .ref (ad k) :: st) := v_callV (As := [a1]) X wm_L_135 wi_X6_isSame ws_X6_isSame wz_X6 wc_X6_isSame ⟨rfl, by decide, by decide, (show (parseMethodDescriptor yX6_isSame.desc).map (fun d => d.parameters.length) = some 1 from by decide +kernel)⟩ rfl d hM (he ▸ hrecv) rfl hst hR kk
theorem cd_L_135 (X : vCx p s m args c cc RL nL z0 D cy) {a1 : Value} {r : Int32} {g' : Nat → va_E} {fr lo : Nat} (d : decode cc pc = .ok (.invokevirtual 135, 3)) (hM : Ct0 l yX6_isSame cX6_isSame 10 (some FieldType.boolean) fr lo z0 D cy n ad g [.ref (ad k), a1] (some (.int r)) g') {e1 : va_E} (hrecv : vAt n g k e1) {fs : List Value} (he : e1 = .inr (6, fs)) (hst : (st.map fun v => v.category).sum ≤ 8) (hR : fr + 1 ≤ R.frames ∧ 8 + (10 + 11) + lo ≤ R.locals ∧ cells ≤ R.cells ∧ slots ≤ R.slots) (kk : vV p l e R s m args below meth c nL z0 D cells slots Q n ad g' (pc + 3) L (.int r :: st)) : vV p l e R s m args below meth c nL z0 D cells slots Q n ad g pc L (a1 :: .ref (ad k) :: st) := cl_L_135 X d hM hrecv he hst ⟨rfl, rfl, hR.1, hR.2.1, hR.2.2.1, hR.2.2.2⟩ (fun r1 n1 ad1 g1 hP => by
  obtain ⟨rfl, rfl, rfl, rfl⟩ := hP
  exact kk)
theorem cl_X6_105 (X : vCx p s m args c cc RX6 nL z0 D cy) {a1 a2 : Value} {P : CtP} {rm : Room} {mc ms : Nat} (d : decode cc pc = .ok (.invokevirtual 105, 3)) (hM : CtG l yX4_house cX4_house 3 (some FieldType.int) rm z0 D cy n ad g [.ref (ad k), a1, a2] P mc ms) {e1 : va_E} (hrecv : vAt n g k e1) {fs : List Value} (he : e1 = .inr (4, fs)) (hst : (st.map fun v => v.category).sum ≤ 8) (hR : rm.cells = mc ∧ rm.slots = ms ∧ rm.frames + 1 ≤ R.frames ∧ 8 + (3 + 11) + rm.locals ≤ R.locals ∧ cells + mc ≤ R.cells ∧ slots + ms ≤ R.slots) (kk : ∀ (r : Option Value) (n' : Nat) (ad' : Nat → Nat) (g' : Nat → va_E), P r n' ad' g' → vV p l e R s m args below meth c nL z0 D (cells + mc) (slots + ms) Q n' ad' g' (pc + 3) L (r.toList ++ st)) : vV p l e R s m args below meth c nL z0 D cells slots Q n ad g pc L (a2 :: a1 :: .ref (ad k) :: st) := v_callV (As := [a1, a2]) X wm_X6_105 wi_X4_house ws_X4_house wz_X4 wc_X4_house ⟨rfl, by decide, by decide, (show (parseMethodDescriptor yX4_house.desc).map (fun d => d.parameters.length) = some 2 from by decide +kernel)⟩ rfl d hM (he ▸ hrecv) rfl hst hR kk
theorem cd_X6_105 (X : vCx p s m args c cc RX6 nL z0 D cy) {a1 a2 : Value} {r : Int32} {g' : Nat → va_E} {fr lo : Nat} (d : decode cc pc = .ok (.invokevirtual 105, 3)) (hM : Ct0 l yX4_house cX4_house 3 (some FieldType.int) fr lo z0 D cy n ad g [.ref (ad k), a1, a2] (some (.int r)) g') {e1 : va_E} (hrecv : vAt n g k e1) {fs : List Value} (he : e1 = .inr (4, fs)) (hst : (st.map fun v => v.category).sum ≤ 8) (hR : fr + 1 ≤ R.frames ∧ 8 + (3 + 11) + lo ≤ R.locals ∧ cells ≤ R.cells ∧ slots ≤ R.slots) (kk : vV p l e R s m args below meth c nL z0 D cells slots Q n ad g' (pc + 3) L (.int r :: st)) : vV p l e R s m args below meth c nL z0 D cells slots Q n ad g pc L (a2 :: a1 :: .ref (ad k) :: st) := cl_X6_105 X d hM hrecv he hst ⟨rfl, rfl, hR.1, hR.2.1, hR.2.2.1, hR.2.2.2⟩ (fun r1 n1 ad1 g1 hP => by
  obtain ⟨rfl, rfl, rfl, rfl⟩ := hP
  exact kk)
theorem cl_X6_110 (X : vCx p s m args c cc RX6 nL z0 D cy) {a1 a2 : Value} {P : CtP} {rm : Room} {mc ms : Nat} (d : decode cc pc = .ok (.invokevirtual 110, 3)) (hM : CtG l yX4_owes cX4_owes 3 (some FieldType.int) rm z0 D cy n ad g [.ref (ad k), a1, a2] P mc ms) {e1 : va_E} (hrecv : vAt n g k e1) {fs : List Value} (he : e1 = .inr (4, fs)) (hst : (st.map fun v => v.category).sum ≤ 8) (hR : rm.cells = mc ∧ rm.slots = ms ∧ rm.frames + 1 ≤ R.frames ∧ 8 + (3 + 11) + rm.locals ≤ R.locals ∧ cells + mc ≤ R.cells ∧ slots + ms ≤ R.slots) (kk : ∀ (r : Option Value) (n' : Nat) (ad' : Nat → Nat) (g' : Nat → va_E), P r n' ad' g' → vV p l e R s m args below meth c nL z0 D (cells + mc) (slots + ms) Q n' ad' g' (pc + 3) L (r.toList ++ st)) : vV p l e R s m args below meth c nL z0 D cells slots Q n ad g pc L (a2 :: a1 :: .ref (ad k) :: st) := v_callV (As := [a1, a2]) X wm_X6_110 wi_X4_owes ws_X4_owes wz_X4 wc_X4_owes ⟨rfl, by decide, by decide, (show (parseMethodDescriptor yX4_owes.desc).map (fun d => d.parameters.length) = some 2 from by decide +kernel)⟩ rfl d hM (he ▸ hrecv) rfl hst hR kk
theorem cd_X6_110 (X : vCx p s m args c cc RX6 nL z0 D cy) {a1 a2 : Value} {r : Int32} {g' : Nat → va_E} {fr lo : Nat} (d : decode cc pc = .ok (.invokevirtual 110, 3)) (hM : Ct0 l yX4_owes cX4_owes 3 (some FieldType.int) fr lo z0 D cy n ad g [.ref (ad k), a1, a2] (some (.int r)) g') {e1 : va_E} (hrecv : vAt n g k e1) {fs : List Value} (he : e1 = .inr (4, fs)) (hst : (st.map fun v => v.category).sum ≤ 8) (hR : fr + 1 ≤ R.frames ∧ 8 + (3 + 11) + lo ≤ R.locals ∧ cells ≤ R.cells ∧ slots ≤ R.slots) (kk : vV p l e R s m args below meth c nL z0 D cells slots Q n ad g' (pc + 3) L (.int r :: st)) : vV p l e R s m args below meth c nL z0 D cells slots Q n ad g pc L (a2 :: a1 :: .ref (ad k) :: st) := cl_X6_110 X d hM hrecv he hst ⟨rfl, rfl, hR.1, hR.2.1, hR.2.2.1, hR.2.2.2⟩ (fun r1 n1 ad1 g1 hP => by
  obtain ⟨rfl, rfl, rfl, rfl⟩ := hP
  exact kk)
theorem cl_X6_113 (X : vCx p s m args c cc RX6 nL z0 D cy) {a1 a2 : Value} {P : CtP} {rm : Room} {mc ms : Nat} (d : decode cc pc = .ok (.invokevirtual 113, 3)) (hM : CtG l yX4_pipe cX4_pipe 3 (some FieldType.int) rm z0 D cy n ad g [.ref (ad k), a1, a2] P mc ms) {e1 : va_E} (hrecv : vAt n g k e1) {fs : List Value} (he : e1 = .inr (4, fs)) (hst : (st.map fun v => v.category).sum ≤ 8) (hR : rm.cells = mc ∧ rm.slots = ms ∧ rm.frames + 1 ≤ R.frames ∧ 8 + (3 + 11) + rm.locals ≤ R.locals ∧ cells + mc ≤ R.cells ∧ slots + ms ≤ R.slots) (kk : ∀ (r : Option Value) (n' : Nat) (ad' : Nat → Nat) (g' : Nat → va_E), P r n' ad' g' → vV p l e R s m args below meth c nL z0 D (cells + mc) (slots + ms) Q n' ad' g' (pc + 3) L (r.toList ++ st)) : vV p l e R s m args below meth c nL z0 D cells slots Q n ad g pc L (a2 :: a1 :: .ref (ad k) :: st) := v_callV (As := [a1, a2]) X wm_X6_113 wi_X4_pipe ws_X4_pipe wz_X4 wc_X4_pipe ⟨rfl, by decide, by decide, (show (parseMethodDescriptor yX4_pipe.desc).map (fun d => d.parameters.length) = some 2 from by decide +kernel)⟩ rfl d hM (he ▸ hrecv) rfl hst hR kk
theorem cd_X6_113 (X : vCx p s m args c cc RX6 nL z0 D cy) {a1 a2 : Value} {r : Int32} {g' : Nat → va_E} {fr lo : Nat} (d : decode cc pc = .ok (.invokevirtual 113, 3)) (hM : Ct0 l yX4_pipe cX4_pipe 3 (some FieldType.int) fr lo z0 D cy n ad g [.ref (ad k), a1, a2] (some (.int r)) g') {e1 : va_E} (hrecv : vAt n g k e1) {fs : List Value} (he : e1 = .inr (4, fs)) (hst : (st.map fun v => v.category).sum ≤ 8) (hR : fr + 1 ≤ R.frames ∧ 8 + (3 + 11) + lo ≤ R.locals ∧ cells ≤ R.cells ∧ slots ≤ R.slots) (kk : vV p l e R s m args below meth c nL z0 D cells slots Q n ad g' (pc + 3) L (.int r :: st)) : vV p l e R s m args below meth c nL z0 D cells slots Q n ad g pc L (a2 :: a1 :: .ref (ad k) :: st) := cl_X6_113 X d hM hrecv he hst ⟨rfl, rfl, hR.1, hR.2.1, hR.2.2.1, hR.2.2.2⟩ (fun r1 n1 ad1 g1 hP => by
  obtain ⟨rfl, rfl, rfl, rfl⟩ := hP
  exact kk)
theorem cl_X6_116 (X : vCx p s m args c cc RX6 nL z0 D cy) {P : CtP} {rm : Room} {mc ms : Nat} (d : decode cc pc = .ok (.invokevirtual 116, 3)) (hM : CtG l yX6_all cX6_all 6 (some FieldType.int) rm z0 D cy n ad g [.ref (ad k)] P mc ms) {e1 : va_E} (hrecv : vAt n g k e1) {fs : List Value} (he : e1 = .inr (6, fs)) (hst : (st.map fun v => v.category).sum ≤ 8) (hR : rm.cells = mc ∧ rm.slots = ms ∧ rm.frames + 1 ≤ R.frames ∧ 8 + (6 + 11) + rm.locals ≤ R.locals ∧ cells + mc ≤ R.cells ∧ slots + ms ≤ R.slots) (kk : ∀ (r : Option Value) (n' : Nat) (ad' : Nat → Nat) (g' : Nat → va_E), P r n' ad' g' → vV p l e R s m args below meth c nL z0 D (cells + mc) (slots + ms) Q n' ad' g' (pc + 3) L (r.toList ++ st)) : vV p l e R s m args below meth c nL z0 D cells slots Q n ad g pc L (.ref (ad k) :: st) := v_callV (As := []) X wm_X6_116 wi_X6_all ws_X6_all wz_X6 wc_X6_all ⟨rfl, by decide, by decide, (show (parseMethodDescriptor yX6_all.desc).map (fun d => d.parameters.length) = some 0 from by decide +kernel)⟩ rfl d hM (he ▸ hrecv) rfl hst hR kk
theorem cd_X6_116 (X : vCx p s m args c cc RX6 nL z0 D cy) {r : Int32} {g' : Nat → va_E} {fr lo : Nat} (d : decode cc pc = .ok (.invokevirtual 116, 3)) (hM : Ct0 l yX6_all cX6_all 6 (some FieldType.int) fr lo z0 D cy n ad g [.ref (ad k)] (some (.int r)) g') {e1 : va_E} (hrecv : vAt n g k e1) {fs : List Value} (he : e1 = .inr (6, fs)) (hst : (st.map fun v => v.category).sum ≤ 8) (hR : fr + 1 ≤ R.frames ∧ 8 + (6 + 11) + lo ≤ R.locals ∧ cells ≤ R.cells ∧ slots ≤ R.slots) (kk : vV p l e R s m args below meth c nL z0 D cells slots Q n ad g' (pc + 3) L (.int r :: st)) : vV p l e R s m args below meth c nL z0 D cells slots Q n ad g pc L (.ref (ad k) :: st) := cl_X6_116 X d hM hrecv he hst ⟨rfl, rfl, hR.1, hR.2.1, hR.2.2.1, hR.2.2.2⟩ (fun r1 n1 ad1 g1 hP => by
  obtain ⟨rfl, rfl, rfl, rfl⟩ := hP
  exact kk)
theorem cl_X6_122 (X : vCx p s m args c cc RX6 nL z0 D cy) {a1 : Value} {P : CtP} {rm : Room} {mc ms : Nat} (d : decode cc pc = .ok (.invokevirtual 122, 3)) (hM : CtG l yX4_count cX4_count 2 (some FieldType.int) rm z0 D cy n ad g [.ref (ad k), a1] P mc ms) {e1 : va_E} (hrecv : vAt n g k e1) {fs : List Value} (he : e1 = .inr (4, fs)) (hst : (st.map fun v => v.category).sum ≤ 8) (hR : rm.cells = mc ∧ rm.slots = ms ∧ rm.frames + 1 ≤ R.frames ∧ 8 + (2 + 11) + rm.locals ≤ R.locals ∧ cells + mc ≤ R.cells ∧ slots + ms ≤ R.slots) (kk : ∀ (r : Option Value) (n' : Nat) (ad' : Nat → Nat) (g' : Nat → va_E), P r n' ad' g' → vV p l e R s m args below meth c nL z0 D (cells + mc) (slots + ms) Q n' ad' g' (pc + 3) L (r.toList ++ st)) : vV p l e R s m args below meth c nL z0 D cells slots Q n ad g pc L (a1 :: .ref (ad k) :: st) := v_callV (As := [a1]) X wm_X6_122 wi_X4_count ws_X4_count wz_X4 wc_X4_count ⟨rfl, by decide, by decide, (show (parseMethodDescriptor yX4_count.desc).map (fun d => d.parameters.length) = some 1 from by decide +kernel)⟩ rfl d hM (he ▸ hrecv) rfl hst hR kk
theorem cd_X6_122 (X : vCx p s m args c cc RX6 nL z0 D cy) {a1 : Value} {r : Int32} {g' : Nat → va_E} {fr lo : Nat} (d : decode cc pc = .ok (.invokevirtual 122, 3)) (hM : Ct0 l yX4_count cX4_count 2 (some FieldType.int) fr lo z0 D cy n ad g [.ref (ad k), a1] (some (.int r)) g') {e1 : va_E} (hrecv : vAt n g k e1) {fs : List Value} (he : e1 = .inr (4, fs)) (hst : (st.map fun v => v.category).sum ≤ 8) (hR : fr + 1 ≤ R.frames ∧ 8 + (2 + 11) + lo ≤ R.locals ∧ cells ≤ R.cells ∧ slots ≤ R.slots) (kk : vV p l e R s m args below meth c nL z0 D cells slots Q n ad g' (pc + 3) L (.int r :: st)) : vV p l e R s m args below meth c nL z0 D cells slots Q n ad g pc L (a1 :: .ref (ad k) :: st) := cl_X6_122 X d hM hrecv he hst ⟨rfl, rfl, hR.1, hR.2.1, hR.2.2.1, hR.2.2.2⟩ (fun r1 n1 ad1 g1 hP => by
  obtain ⟨rfl, rfl, rfl, rfl⟩ := hP
  exact kk)
theorem cl_X6_125 (X : vCx p s m args c cc RX6 nL z0 D cy) {P : CtP} {rm : Room} {mc ms : Nat} (d : decode cc pc = .ok (.invokevirtual 125, 3)) (hM : CtG l yX4_full cX4_full 2 (some FieldType.double) rm z0 D cy n ad g [.ref (ad k)] P mc ms) {e1 : va_E} (hrecv : vAt n g k e1) {fs : List Value} (he : e1 = .inr (4, fs)) (hst : (st.map fun v => v.category).sum ≤ 8) (hR : rm.cells = mc ∧ rm.slots = ms ∧ rm.frames + 1 ≤ R.frames ∧ 8 + (2 + 11) + rm.locals ≤ R.locals ∧ cells + mc ≤ R.cells ∧ slots + ms ≤ R.slots) (kk : ∀ (r : Option Value) (n' : Nat) (ad' : Nat → Nat) (g' : Nat → va_E), P r n' ad' g' → vV p l e R s m args below meth c nL z0 D (cells + mc) (slots + ms) Q n' ad' g' (pc + 3) L (r.toList ++ st)) : vV p l e R s m args below meth c nL z0 D cells slots Q n ad g pc L (.ref (ad k) :: st) := v_callV (As := []) X wm_X6_125 wi_X4_full ws_X4_full wz_X4 wc_X4_full ⟨rfl, by decide, by decide, (show (parseMethodDescriptor yX4_full.desc).map (fun d => d.parameters.length) = some 0 from by decide +kernel)⟩ rfl d hM (he ▸ hrecv) rfl hst hR kk
theorem cd_X6_125 (X : vCx p s m args c cc RX6 nL z0 D cy) {r : UInt64} {g' : Nat → va_E} {fr lo : Nat} (d : decode cc pc = .ok (.invokevirtual 125, 3)) (hM : Ct0 l yX4_full cX4_full 2 (some FieldType.double) fr lo z0 D cy n ad g [.ref (ad k)] (some (.double r)) g') {e1 : va_E} (hrecv : vAt n g k e1) {fs : List Value} (he : e1 = .inr (4, fs)) (hst : (st.map fun v => v.category).sum ≤ 8) (hR : fr + 1 ≤ R.frames ∧ 8 + (2 + 11) + lo ≤ R.locals ∧ cells ≤ R.cells ∧ slots ≤ R.slots) (kk : vV p l e R s m args below meth c nL z0 D cells slots Q n ad g' (pc + 3) L (.double r :: st)) : vV p l e R s m args below meth c nL z0 D cells slots Q n ad g pc L (.ref (ad k) :: st) := cl_X6_125 X d hM hrecv he hst ⟨rfl, rfl, hR.1, hR.2.1, hR.2.2.1, hR.2.2.2⟩ (fun r1 n1 ad1 g1 hP => by
  obtain ⟨rfl, rfl, rfl, rfl⟩ := hP
  exact kk)
theorem cl_X4_148 (X : vCx p s m args c cc RX4 nL z0 D cy) {P : CtP} {rm : Room} {mc ms : Nat} (d : decode cc pc = .ok (.invokevirtual 148, 3)) (hM : CtG l yX2_allHolds cX2_allHolds 3 (some FieldType.int) rm z0 D cy n ad g [.ref (ad k)] P mc ms) {e1 : va_E} (hrecv : vAt n g k e1) {fs : List Value} (he : e1 = .inr (2, fs)) (hst : (st.map fun v => v.category).sum ≤ 8) (hR : rm.cells = mc ∧ rm.slots = ms ∧ rm.frames + 1 ≤ R.frames ∧ 8 + (3 + 11) + rm.locals ≤ R.locals ∧ cells + mc ≤ R.cells ∧ slots + ms ≤ R.slots) (kk : ∀ (r : Option Value) (n' : Nat) (ad' : Nat → Nat) (g' : Nat → va_E), P r n' ad' g' → vV p l e R s m args below meth c nL z0 D (cells + mc) (slots + ms) Q n' ad' g' (pc + 3) L (r.toList ++ st)) : vV p l e R s m args below meth c nL z0 D cells slots Q n ad g pc L (.ref (ad k) :: st) := v_callV (As := []) X wm_X4_148 wi_X2_allHolds ws_X2_allHolds wz_X2 wc_X2_allHolds ⟨rfl, by decide, by decide, (show (parseMethodDescriptor yX2_allHolds.desc).map (fun d => d.parameters.length) = some 0 from by decide +kernel)⟩ rfl d hM (he ▸ hrecv) rfl hst hR kk
theorem cd_X4_148 (X : vCx p s m args c cc RX4 nL z0 D cy) {r : Int32} {g' : Nat → va_E} {fr lo : Nat} (d : decode cc pc = .ok (.invokevirtual 148, 3)) (hM : Ct0 l yX2_allHolds cX2_allHolds 3 (some FieldType.int) fr lo z0 D cy n ad g [.ref (ad k)] (some (.int r)) g') {e1 : va_E} (hrecv : vAt n g k e1) {fs : List Value} (he : e1 = .inr (2, fs)) (hst : (st.map fun v => v.category).sum ≤ 8) (hR : fr + 1 ≤ R.frames ∧ 8 + (3 + 11) + lo ≤ R.locals ∧ cells ≤ R.cells ∧ slots ≤ R.slots) (kk : vV p l e R s m args below meth c nL z0 D cells slots Q n ad g' (pc + 3) L (.int r :: st)) : vV p l e R s m args below meth c nL z0 D cells slots Q n ad g pc L (.ref (ad k) :: st) := cl_X4_148 X d hM hrecv he hst ⟨rfl, rfl, hR.1, hR.2.1, hR.2.2.1, hR.2.2.2⟩ (fun r1 n1 ad1 g1 hP => by
  obtain ⟨rfl, rfl, rfl, rfl⟩ := hP
  exact kk)
theorem cl_L_18 (X : vCx p s m args c cc RL nL z0 D cy) {a1 a2 : Value} {P : CtP} {rm : Room} {mc ms : Nat} (d : decode cc pc = .ok (.invokestatic 18, 3)) (hM : CtG l yL_below cL_below 2 (some FieldType.int) rm z0 D cy n ad g [a1, a2] P mc ms) (hst : (st.map fun v => v.category).sum ≤ 8) (hR : rm.cells = mc ∧ rm.slots = ms ∧ rm.frames + 1 ≤ R.frames ∧ 8 + (2 + 11) + rm.locals ≤ R.locals ∧ cells + mc ≤ R.cells ∧ slots + ms ≤ R.slots) (kk : ∀ (r : Option Value) (n' : Nat) (ad' : Nat → Nat) (g' : Nat → va_E), P r n' ad' g' → vV p l e R s m args below meth c nL z0 D (cells + mc) (slots + ms) Q n' ad' g' (pc + 3) L (r.toList ++ st)) : vV p l e R s m args below meth c nL z0 D cells slots Q n ad g pc L (a2 :: a1 :: st) := v_callS (As := [a1, a2]) X wm_L_18 wt_L_below wz_L wc_L_below ⟨by decide, by decide, (show (parseMethodDescriptor yL_below.desc).map (fun d => d.parameters.length) = some 2 from by decide +kernel)⟩ d hM rfl hst hR kk
theorem cd_L_18 (X : vCx p s m args c cc RL nL z0 D cy) {a1 a2 : Value} {r : Int32} {g' : Nat → va_E} {fr lo : Nat} (d : decode cc pc = .ok (.invokestatic 18, 3)) (hM : Ct0 l yL_below cL_below 2 (some FieldType.int) fr lo z0 D cy n ad g [a1, a2] (some (.int r)) g') (hst : (st.map fun v => v.category).sum ≤ 8) (hR : fr + 1 ≤ R.frames ∧ 8 + (2 + 11) + lo ≤ R.locals ∧ cells ≤ R.cells ∧ slots ≤ R.slots) (kk : vV p l e R s m args below meth c nL z0 D cells slots Q n ad g' (pc + 3) L (.int r :: st)) : vV p l e R s m args below meth c nL z0 D cells slots Q n ad g pc L (a2 :: a1 :: st) := cl_L_18 X d hM hst ⟨rfl, rfl, hR.1, hR.2.1, hR.2.2.1, hR.2.2.2⟩ (fun r1 n1 ad1 g1 hP => by
  obtain ⟨rfl, rfl, rfl, rfl⟩ := hP
  exact kk)
theorem cl_L_12 (X : vCx p s m args c cc RL nL z0 D cy) {a1 a2 : Value} {P : CtP} {rm : Room} {mc ms : Nat} (d : decode cc pc = .ok (.invokestatic 12, 3)) (hM : CtG l yL_cell cL_cell 2 (some FieldType.int) rm z0 D cy n ad g [a1, a2] P mc ms) (hst : (st.map fun v => v.category).sum ≤ 8) (hR : rm.cells = mc ∧ rm.slots = ms ∧ rm.frames + 1 ≤ R.frames ∧ 8 + (2 + 11) + rm.locals ≤ R.locals ∧ cells + mc ≤ R.cells ∧ slots + ms ≤ R.slots) (kk : ∀ (r : Option Value) (n' : Nat) (ad' : Nat → Nat) (g' : Nat → va_E), P r n' ad' g' → vV p l e R s m args below meth c nL z0 D (cells + mc) (slots + ms) Q n' ad' g' (pc + 3) L (r.toList ++ st)) : vV p l e R s m args below meth c nL z0 D cells slots Q n ad g pc L (a2 :: a1 :: st) := v_callS (As := [a1, a2]) X wm_L_12 wt_L_cell wz_L wc_L_cell ⟨by decide, by decide, (show (parseMethodDescriptor yL_cell.desc).map (fun d => d.parameters.length) = some 2 from by decide +kernel)⟩ d hM rfl hst hR kk
theorem cd_L_12 (X : vCx p s m args c cc RL nL z0 D cy) {a1 a2 : Value} {r : Int32} {g' : Nat → va_E} {fr lo : Nat} (d : decode cc pc = .ok (.invokestatic 12, 3)) (hM : Ct0 l yL_cell cL_cell 2 (some FieldType.int) fr lo z0 D cy n ad g [a1, a2] (some (.int r)) g') (hst : (st.map fun v => v.category).sum ≤ 8) (hR : fr + 1 ≤ R.frames ∧ 8 + (2 + 11) + lo ≤ R.locals ∧ cells ≤ R.cells ∧ slots ≤ R.slots) (kk : vV p l e R s m args below meth c nL z0 D cells slots Q n ad g' (pc + 3) L (.int r :: st)) : vV p l e R s m args below meth c nL z0 D cells slots Q n ad g pc L (a2 :: a1 :: st) := cl_L_12 X d hM hst ⟨rfl, rfl, hR.1, hR.2.1, hR.2.2.1, hR.2.2.2⟩ (fun r1 n1 ad1 g1 hP => by
  obtain ⟨rfl, rfl, rfl, rfl⟩ := hP
  exact kk)
theorem cl_L_95 (X : vCx p s m args c cc RL nL z0 D cy) {a1 a2 : Value} {P : CtP} {rm : Room} {mc ms : Nat} (d : decode cc pc = .ok (.invokestatic 95, 3)) (hM : CtG l yL_build cL_build 9 (some (FieldType.object "RoofWaterLaw$Sim")) rm z0 D cy n ad g [a1, a2] P mc ms) (hst : (st.map fun v => v.category).sum ≤ 8) (hR : rm.cells = mc ∧ rm.slots = ms ∧ rm.frames + 1 ≤ R.frames ∧ 8 + (9 + 11) + rm.locals ≤ R.locals ∧ cells + mc ≤ R.cells ∧ slots + ms ≤ R.slots) (kk : ∀ (r : Option Value) (n' : Nat) (ad' : Nat → Nat) (g' : Nat → va_E), P r n' ad' g' → vV p l e R s m args below meth c nL z0 D (cells + mc) (slots + ms) Q n' ad' g' (pc + 3) L (r.toList ++ st)) : vV p l e R s m args below meth c nL z0 D cells slots Q n ad g pc L (a2 :: a1 :: st) := v_callS (As := [a1, a2]) X wm_L_95 wt_L_build wz_L wc_L_build ⟨by decide, by decide, (show (parseMethodDescriptor yL_build.desc).map (fun d => d.parameters.length) = some 2 from by decide +kernel)⟩ d hM rfl hst hR kk
theorem cd_L_95 (X : vCx p s m args c cc RL nL z0 D cy) {a1 a2 : Value} {r : Nat} {g' : Nat → va_E} {fr lo : Nat} (d : decode cc pc = .ok (.invokestatic 95, 3)) (hM : Ct0 l yL_build cL_build 9 (some (FieldType.object "RoofWaterLaw$Sim")) fr lo z0 D cy n ad g [a1, a2] (some (.ref r)) g') (hst : (st.map fun v => v.category).sum ≤ 8) (hR : fr + 1 ≤ R.frames ∧ 8 + (9 + 11) + lo ≤ R.locals ∧ cells ≤ R.cells ∧ slots ≤ R.slots) (kk : vV p l e R s m args below meth c nL z0 D cells slots Q n ad g' (pc + 3) L (.ref r :: st)) : vV p l e R s m args below meth c nL z0 D cells slots Q n ad g pc L (a2 :: a1 :: st) := cl_L_95 X d hM hst ⟨rfl, rfl, hR.1, hR.2.1, hR.2.2.1, hR.2.2.2⟩ (fun r1 n1 ad1 g1 hP => by
  obtain ⟨rfl, rfl, rfl, rfl⟩ := hP
  exact kk)
theorem cl_L_26 (X : vCx p s m args c cc RL nL z0 D cy) {a1 a2 a3 : Value} {P : CtP} {rm : Room} {mc ms : Nat} (d : decode cc pc = .ok (.invokevirtual 26, 3)) (hM : CtG l yX4_setWeather cX4_setWeather 5 (some FieldType.int) rm z0 D cy n ad g [.ref (ad k), a1, a2, a3] P mc ms) {e1 : va_E} (hrecv : vAt n g k e1) {fs : List Value} (he : e1 = .inr (4, fs)) (hst : (st.map fun v => v.category).sum ≤ 8) (hR : rm.cells = mc ∧ rm.slots = ms ∧ rm.frames + 1 ≤ R.frames ∧ 8 + (5 + 11) + rm.locals ≤ R.locals ∧ cells + mc ≤ R.cells ∧ slots + ms ≤ R.slots) (kk : ∀ (r : Option Value) (n' : Nat) (ad' : Nat → Nat) (g' : Nat → va_E), P r n' ad' g' → vV p l e R s m args below meth c nL z0 D (cells + mc) (slots + ms) Q n' ad' g' (pc + 3) L (r.toList ++ st)) : vV p l e R s m args below meth c nL z0 D cells slots Q n ad g pc L (a3 :: a2 :: a1 :: .ref (ad k) :: st) := v_callV (As := [a1, a2, a3]) X wm_L_26 wi_X4_setWeather ws_X4_setWeather wz_X4 wc_X4_setWeather ⟨rfl, by decide, by decide, (show (parseMethodDescriptor yX4_setWeather.desc).map (fun d => d.parameters.length) = some 3 from by decide +kernel)⟩ rfl d hM (he ▸ hrecv) rfl hst hR kk
theorem cd_L_26 (X : vCx p s m args c cc RL nL z0 D cy) {a1 a2 a3 : Value} {r : Int32} {g' : Nat → va_E} {fr lo : Nat} (d : decode cc pc = .ok (.invokevirtual 26, 3)) (hM : Ct0 l yX4_setWeather cX4_setWeather 5 (some FieldType.int) fr lo z0 D cy n ad g [.ref (ad k), a1, a2, a3] (some (.int r)) g') {e1 : va_E} (hrecv : vAt n g k e1) {fs : List Value} (he : e1 = .inr (4, fs)) (hst : (st.map fun v => v.category).sum ≤ 8) (hR : fr + 1 ≤ R.frames ∧ 8 + (5 + 11) + lo ≤ R.locals ∧ cells ≤ R.cells ∧ slots ≤ R.slots) (kk : vV p l e R s m args below meth c nL z0 D cells slots Q n ad g' (pc + 3) L (.int r :: st)) : vV p l e R s m args below meth c nL z0 D cells slots Q n ad g pc L (a3 :: a2 :: a1 :: .ref (ad k) :: st) := cl_L_26 X d hM hrecv he hst ⟨rfl, rfl, hR.1, hR.2.1, hR.2.2.1, hR.2.2.2⟩ (fun r1 n1 ad1 g1 hP => by
  obtain ⟨rfl, rfl, rfl, rfl⟩ := hP
  exact kk)
theorem cl_X4_39 (X : vCx p s m args c cc RX4 nL z0 D cy) {a1 : Value} {P : CtP} {rm : Room} {mc ms : Nat} (d : decode cc pc = .ok (.invokevirtual 39, 3)) (hM : CtG l yX3_code cX3_code 2 (some FieldType.int) rm z0 D cy n ad g [.ref (ad k), a1] P mc ms) {e1 : va_E} (hrecv : vAt n g k e1) {fs : List Value} (he : e1 = .inr (3, fs)) (hst : (st.map fun v => v.category).sum ≤ 8) (hR : rm.cells = mc ∧ rm.slots = ms ∧ rm.frames + 1 ≤ R.frames ∧ 8 + (2 + 11) + rm.locals ≤ R.locals ∧ cells + mc ≤ R.cells ∧ slots + ms ≤ R.slots) (kk : ∀ (r : Option Value) (n' : Nat) (ad' : Nat → Nat) (g' : Nat → va_E), P r n' ad' g' → vV p l e R s m args below meth c nL z0 D (cells + mc) (slots + ms) Q n' ad' g' (pc + 3) L (r.toList ++ st)) : vV p l e R s m args below meth c nL z0 D cells slots Q n ad g pc L (a1 :: .ref (ad k) :: st) := v_callV (As := [a1]) X wm_X4_39 wi_X3_code ws_X3_code wz_X3 wc_X3_code ⟨rfl, by decide, by decide, (show (parseMethodDescriptor yX3_code.desc).map (fun d => d.parameters.length) = some 1 from by decide +kernel)⟩ rfl d hM (he ▸ hrecv) rfl hst hR kk
theorem cd_X4_39 (X : vCx p s m args c cc RX4 nL z0 D cy) {a1 : Value} {r : Int32} {g' : Nat → va_E} {fr lo : Nat} (d : decode cc pc = .ok (.invokevirtual 39, 3)) (hM : Ct0 l yX3_code cX3_code 2 (some FieldType.int) fr lo z0 D cy n ad g [.ref (ad k), a1] (some (.int r)) g') {e1 : va_E} (hrecv : vAt n g k e1) {fs : List Value} (he : e1 = .inr (3, fs)) (hst : (st.map fun v => v.category).sum ≤ 8) (hR : fr + 1 ≤ R.frames ∧ 8 + (2 + 11) + lo ≤ R.locals ∧ cells ≤ R.cells ∧ slots ≤ R.slots) (kk : vV p l e R s m args below meth c nL z0 D cells slots Q n ad g' (pc + 3) L (.int r :: st)) : vV p l e R s m args below meth c nL z0 D cells slots Q n ad g pc L (a1 :: .ref (ad k) :: st) := cl_X4_39 X d hM hrecv he hst ⟨rfl, rfl, hR.1, hR.2.1, hR.2.2.1, hR.2.2.2⟩ (fun r1 n1 ad1 g1 hP => by
  obtain ⟨rfl, rfl, rfl, rfl⟩ := hP
  exact kk)
theorem cl_X4_43 (X : vCx p s m args c cc RX4 nL z0 D cy) {a1 a2 a3 : Value} {P : CtP} {rm : Room} {mc ms : Nat} (d : decode cc pc = .ok (.invokevirtual 43, 3)) (hM : CtG l yX3_change cX3_change 4 none rm z0 D cy n ad g [.ref (ad k), a1, a2, a3] P mc ms) {e1 : va_E} (hrecv : vAt n g k e1) {fs : List Value} (he : e1 = .inr (3, fs)) (hst : (st.map fun v => v.category).sum ≤ 8) (hR : rm.cells = mc ∧ rm.slots = ms ∧ rm.frames + 1 ≤ R.frames ∧ 8 + (4 + 11) + rm.locals ≤ R.locals ∧ cells + mc ≤ R.cells ∧ slots + ms ≤ R.slots) (kk : ∀ (r : Option Value) (n' : Nat) (ad' : Nat → Nat) (g' : Nat → va_E), P r n' ad' g' → vV p l e R s m args below meth c nL z0 D (cells + mc) (slots + ms) Q n' ad' g' (pc + 3) L (r.toList ++ st)) : vV p l e R s m args below meth c nL z0 D cells slots Q n ad g pc L (a3 :: a2 :: a1 :: .ref (ad k) :: st) := v_callV (As := [a1, a2, a3]) X wm_X4_43 wi_X3_change ws_X3_change wz_X3 wc_X3_change ⟨rfl, by decide, by decide, (show (parseMethodDescriptor yX3_change.desc).map (fun d => d.parameters.length) = some 3 from by decide +kernel)⟩ rfl d hM (he ▸ hrecv) rfl hst hR kk
theorem cd_X4_43 (X : vCx p s m args c cc RX4 nL z0 D cy) {a1 a2 a3 : Value} {g' : Nat → va_E} {fr lo : Nat} (d : decode cc pc = .ok (.invokevirtual 43, 3)) (hM : Ct0 l yX3_change cX3_change 4 none fr lo z0 D cy n ad g [.ref (ad k), a1, a2, a3] none g') {e1 : va_E} (hrecv : vAt n g k e1) {fs : List Value} (he : e1 = .inr (3, fs)) (hst : (st.map fun v => v.category).sum ≤ 8) (hR : fr + 1 ≤ R.frames ∧ 8 + (4 + 11) + lo ≤ R.locals ∧ cells ≤ R.cells ∧ slots ≤ R.slots) (kk : vV p l e R s m args below meth c nL z0 D cells slots Q n ad g' (pc + 3) L st) : vV p l e R s m args below meth c nL z0 D cells slots Q n ad g pc L (a3 :: a2 :: a1 :: .ref (ad k) :: st) := cl_X4_43 X d hM hrecv he hst ⟨rfl, rfl, hR.1, hR.2.1, hR.2.2.1, hR.2.2.2⟩ (fun r1 n1 ad1 g1 hP => by
  obtain ⟨rfl, rfl, rfl, rfl⟩ := hP
  exact kk)
theorem cl_L_32 (X : vCx p s m args c cc RL nL z0 D cy) {a1 a2 a3 a4 : Value} {P : CtP} {rm : Room} {mc ms : Nat} (d : decode cc pc = .ok (.invokevirtual 32, 3)) (hM : CtG l yX4_build cX4_build 5 (some FieldType.int) rm z0 D cy n ad g [.ref (ad k), a1, a2, a3, a4] P mc ms) {e1 : va_E} (hrecv : vAt n g k e1) {fs : List Value} (he : e1 = .inr (4, fs)) (hst : (st.map fun v => v.category).sum ≤ 8) (hR : rm.cells = mc ∧ rm.slots = ms ∧ rm.frames + 1 ≤ R.frames ∧ 8 + (5 + 11) + rm.locals ≤ R.locals ∧ cells + mc ≤ R.cells ∧ slots + ms ≤ R.slots) (kk : ∀ (r : Option Value) (n' : Nat) (ad' : Nat → Nat) (g' : Nat → va_E), P r n' ad' g' → vV p l e R s m args below meth c nL z0 D (cells + mc) (slots + ms) Q n' ad' g' (pc + 3) L (r.toList ++ st)) : vV p l e R s m args below meth c nL z0 D cells slots Q n ad g pc L (a4 :: a3 :: a2 :: a1 :: .ref (ad k) :: st) := v_callV (As := [a1, a2, a3, a4]) X wm_L_32 wi_X4_build ws_X4_build wz_X4 wc_X4_build ⟨rfl, by decide, by decide, (show (parseMethodDescriptor yX4_build.desc).map (fun d => d.parameters.length) = some 4 from by decide +kernel)⟩ rfl d hM (he ▸ hrecv) rfl hst hR kk
theorem cd_L_32 (X : vCx p s m args c cc RL nL z0 D cy) {a1 a2 a3 a4 : Value} {r : Int32} {g' : Nat → va_E} {fr lo : Nat} (d : decode cc pc = .ok (.invokevirtual 32, 3)) (hM : Ct0 l yX4_build cX4_build 5 (some FieldType.int) fr lo z0 D cy n ad g [.ref (ad k), a1, a2, a3, a4] (some (.int r)) g') {e1 : va_E} (hrecv : vAt n g k e1) {fs : List Value} (he : e1 = .inr (4, fs)) (hst : (st.map fun v => v.category).sum ≤ 8) (hR : fr + 1 ≤ R.frames ∧ 8 + (5 + 11) + lo ≤ R.locals ∧ cells ≤ R.cells ∧ slots ≤ R.slots) (kk : vV p l e R s m args below meth c nL z0 D cells slots Q n ad g' (pc + 3) L (.int r :: st)) : vV p l e R s m args below meth c nL z0 D cells slots Q n ad g pc L (a4 :: a3 :: a2 :: a1 :: .ref (ad k) :: st) := cl_L_32 X d hM hrecv he hst ⟨rfl, rfl, hR.1, hR.2.1, hR.2.2.1, hR.2.2.2⟩ (fun r1 n1 ad1 g1 hP => by
  obtain ⟨rfl, rfl, rfl, rfl⟩ := hP
  exact kk)
theorem cl_X4_51 (X : vCx p s m args c cc RX4 nL z0 D cy) {a1 : Value} {P : CtP} {rm : Room} {mc ms : Nat} (d : decode cc pc = .ok (.invokestatic 51, 3)) (hM : CtG l yX4_needState cX4_needState 1 none rm z0 D cy n ad g [a1] P mc ms) (hst : (st.map fun v => v.category).sum ≤ 8) (hR : rm.cells = mc ∧ rm.slots = ms ∧ rm.frames + 1 ≤ R.frames ∧ 8 + (1 + 11) + rm.locals ≤ R.locals ∧ cells + mc ≤ R.cells ∧ slots + ms ≤ R.slots) (kk : ∀ (r : Option Value) (n' : Nat) (ad' : Nat → Nat) (g' : Nat → va_E), P r n' ad' g' → vV p l e R s m args below meth c nL z0 D (cells + mc) (slots + ms) Q n' ad' g' (pc + 3) L (r.toList ++ st)) : vV p l e R s m args below meth c nL z0 D cells slots Q n ad g pc L (a1 :: st) := v_callS (As := [a1]) X wm_X4_51 wt_X4_needState wz_X4 wc_X4_needState ⟨by decide, by decide, (show (parseMethodDescriptor yX4_needState.desc).map (fun d => d.parameters.length) = some 1 from by decide +kernel)⟩ d hM rfl hst hR kk
theorem cd_X4_51 (X : vCx p s m args c cc RX4 nL z0 D cy) {a1 : Value} {g' : Nat → va_E} {fr lo : Nat} (d : decode cc pc = .ok (.invokestatic 51, 3)) (hM : Ct0 l yX4_needState cX4_needState 1 none fr lo z0 D cy n ad g [a1] none g') (hst : (st.map fun v => v.category).sum ≤ 8) (hR : fr + 1 ≤ R.frames ∧ 8 + (1 + 11) + lo ≤ R.locals ∧ cells ≤ R.cells ∧ slots ≤ R.slots) (kk : vV p l e R s m args below meth c nL z0 D cells slots Q n ad g' (pc + 3) L st) : vV p l e R s m args below meth c nL z0 D cells slots Q n ad g pc L (a1 :: st) := cl_X4_51 X d hM hst ⟨rfl, rfl, hR.1, hR.2.1, hR.2.2.1, hR.2.2.2⟩ (fun r1 n1 ad1 g1 hP => by
  obtain ⟨rfl, rfl, rfl, rfl⟩ := hP
  exact kk)
theorem cl_X4_54 (X : vCx p s m args c cc RX4 nL z0 D cy) {a1 a2 a3 a4 : Value} {P : CtP} {rm : Room} {mc ms : Nat} (d : decode cc pc = .ok (.invokevirtual 54, 3)) (hM : CtG l yX2_addHouse cX2_addHouse 6 (some FieldType.int) rm z0 D cy n ad g [.ref (ad k), a1, a2, a3, a4] P mc ms) {e1 : va_E} (hrecv : vAt n g k e1) {fs : List Value} (he : e1 = .inr (2, fs)) (hst : (st.map fun v => v.category).sum ≤ 8) (hR : rm.cells = mc ∧ rm.slots = ms ∧ rm.frames + 1 ≤ R.frames ∧ 8 + (6 + 11) + rm.locals ≤ R.locals ∧ cells + mc ≤ R.cells ∧ slots + ms ≤ R.slots) (kk : ∀ (r : Option Value) (n' : Nat) (ad' : Nat → Nat) (g' : Nat → va_E), P r n' ad' g' → vV p l e R s m args below meth c nL z0 D (cells + mc) (slots + ms) Q n' ad' g' (pc + 3) L (r.toList ++ st)) : vV p l e R s m args below meth c nL z0 D cells slots Q n ad g pc L (a4 :: a3 :: a2 :: a1 :: .ref (ad k) :: st) := v_callV (As := [a1, a2, a3, a4]) X wm_X4_54 wi_X2_addHouse ws_X2_addHouse wz_X2 wc_X2_addHouse ⟨rfl, by decide, by decide, (show (parseMethodDescriptor yX2_addHouse.desc).map (fun d => d.parameters.length) = some 4 from by decide +kernel)⟩ rfl d hM (he ▸ hrecv) rfl hst hR kk
theorem cd_X4_54 (X : vCx p s m args c cc RX4 nL z0 D cy) {a1 a2 a3 a4 : Value} {r : Int32} {g' : Nat → va_E} {fr lo : Nat} (d : decode cc pc = .ok (.invokevirtual 54, 3)) (hM : Ct0 l yX2_addHouse cX2_addHouse 6 (some FieldType.int) fr lo z0 D cy n ad g [.ref (ad k), a1, a2, a3, a4] (some (.int r)) g') {e1 : va_E} (hrecv : vAt n g k e1) {fs : List Value} (he : e1 = .inr (2, fs)) (hst : (st.map fun v => v.category).sum ≤ 8) (hR : fr + 1 ≤ R.frames ∧ 8 + (6 + 11) + lo ≤ R.locals ∧ cells ≤ R.cells ∧ slots ≤ R.slots) (kk : vV p l e R s m args below meth c nL z0 D cells slots Q n ad g' (pc + 3) L (.int r :: st)) : vV p l e R s m args below meth c nL z0 D cells slots Q n ad g pc L (a4 :: a3 :: a2 :: a1 :: .ref (ad k) :: st) := cl_X4_54 X d hM hrecv he hst ⟨rfl, rfl, hR.1, hR.2.1, hR.2.2.1, hR.2.2.2⟩ (fun r1 n1 ad1 g1 hP => by
  obtain ⟨rfl, rfl, rfl, rfl⟩ := hP
  exact kk)
theorem cl_L_36 (X : vCx p s m args c cc RL nL z0 D cy) {a1 a2 a3 a4 : Value} {P : CtP} {rm : Room} {mc ms : Nat} (d : decode cc pc = .ok (.invokevirtual 36, 3)) (hM : CtG l yX6_build cX6_build 7 none rm z0 D cy n ad g [.ref (ad k), a1, a2, a3, a4] P mc ms) {e1 : va_E} (hrecv : vAt n g k e1) {fs : List Value} (he : e1 = .inr (6, fs)) (hst : (st.map fun v => v.category).sum ≤ 8) (hR : rm.cells = mc ∧ rm.slots = ms ∧ rm.frames + 1 ≤ R.frames ∧ 8 + (7 + 11) + rm.locals ≤ R.locals ∧ cells + mc ≤ R.cells ∧ slots + ms ≤ R.slots) (kk : ∀ (r : Option Value) (n' : Nat) (ad' : Nat → Nat) (g' : Nat → va_E), P r n' ad' g' → vV p l e R s m args below meth c nL z0 D (cells + mc) (slots + ms) Q n' ad' g' (pc + 3) L (r.toList ++ st)) : vV p l e R s m args below meth c nL z0 D cells slots Q n ad g pc L (a4 :: a3 :: a2 :: a1 :: .ref (ad k) :: st) := v_callV (As := [a1, a2, a3, a4]) X wm_L_36 wi_X6_build ws_X6_build wz_X6 wc_X6_build ⟨rfl, by decide, by decide, (show (parseMethodDescriptor yX6_build.desc).map (fun d => d.parameters.length) = some 4 from by decide +kernel)⟩ rfl d hM (he ▸ hrecv) rfl hst hR kk
theorem cd_L_36 (X : vCx p s m args c cc RL nL z0 D cy) {a1 a2 a3 a4 : Value} {g' : Nat → va_E} {fr lo : Nat} (d : decode cc pc = .ok (.invokevirtual 36, 3)) (hM : Ct0 l yX6_build cX6_build 7 none fr lo z0 D cy n ad g [.ref (ad k), a1, a2, a3, a4] none g') {e1 : va_E} (hrecv : vAt n g k e1) {fs : List Value} (he : e1 = .inr (6, fs)) (hst : (st.map fun v => v.category).sum ≤ 8) (hR : fr + 1 ≤ R.frames ∧ 8 + (7 + 11) + lo ≤ R.locals ∧ cells ≤ R.cells ∧ slots ≤ R.slots) (kk : vV p l e R s m args below meth c nL z0 D cells slots Q n ad g' (pc + 3) L st) : vV p l e R s m args below meth c nL z0 D cells slots Q n ad g pc L (a4 :: a3 :: a2 :: a1 :: .ref (ad k) :: st) := cl_L_36 X d hM hrecv he hst ⟨rfl, rfl, hR.1, hR.2.1, hR.2.2.1, hR.2.2.2⟩ (fun r1 n1 ad1 g1 hP => by
  obtain ⟨rfl, rfl, rfl, rfl⟩ := hP
  exact kk)
theorem cl_L_39 (X : vCx p s m args c cc RL nL z0 D cy) {a1 a2 : Value} {P : CtP} {rm : Room} {mc ms : Nat} (d : decode cc pc = .ok (.invokevirtual 39, 3)) (hM : CtG l yX6_leads cX6_leads 3 (some FieldType.boolean) rm z0 D cy n ad g [.ref (ad k), a1, a2] P mc ms) {e1 : va_E} (hrecv : vAt n g k e1) {fs : List Value} (he : e1 = .inr (6, fs)) (hst : (st.map fun v => v.category).sum ≤ 8) (hR : rm.cells = mc ∧ rm.slots = ms ∧ rm.frames + 1 ≤ R.frames ∧ 8 + (3 + 11) + rm.locals ≤ R.locals ∧ cells + mc ≤ R.cells ∧ slots + ms ≤ R.slots) (kk : ∀ (r : Option Value) (n' : Nat) (ad' : Nat → Nat) (g' : Nat → va_E), P r n' ad' g' → vV p l e R s m args below meth c nL z0 D (cells + mc) (slots + ms) Q n' ad' g' (pc + 3) L (r.toList ++ st)) : vV p l e R s m args below meth c nL z0 D cells slots Q n ad g pc L (a2 :: a1 :: .ref (ad k) :: st) := v_callV (As := [a1, a2]) X wm_L_39 wi_X6_leads ws_X6_leads wz_X6 wc_X6_leads ⟨rfl, by decide, by decide, (show (parseMethodDescriptor yX6_leads.desc).map (fun d => d.parameters.length) = some 2 from by decide +kernel)⟩ rfl d hM (he ▸ hrecv) rfl hst hR kk
theorem cd_L_39 (X : vCx p s m args c cc RL nL z0 D cy) {a1 a2 : Value} {r : Int32} {g' : Nat → va_E} {fr lo : Nat} (d : decode cc pc = .ok (.invokevirtual 39, 3)) (hM : Ct0 l yX6_leads cX6_leads 3 (some FieldType.boolean) fr lo z0 D cy n ad g [.ref (ad k), a1, a2] (some (.int r)) g') {e1 : va_E} (hrecv : vAt n g k e1) {fs : List Value} (he : e1 = .inr (6, fs)) (hst : (st.map fun v => v.category).sum ≤ 8) (hR : fr + 1 ≤ R.frames ∧ 8 + (3 + 11) + lo ≤ R.locals ∧ cells ≤ R.cells ∧ slots ≤ R.slots) (kk : vV p l e R s m args below meth c nL z0 D cells slots Q n ad g' (pc + 3) L (.int r :: st)) : vV p l e R s m args below meth c nL z0 D cells slots Q n ad g pc L (a2 :: a1 :: .ref (ad k) :: st) := cl_L_39 X d hM hrecv he hst ⟨rfl, rfl, hR.1, hR.2.1, hR.2.2.1, hR.2.2.2⟩ (fun r1 n1 ad1 g1 hP => by
  obtain ⟨rfl, rfl, rfl, rfl⟩ := hP
  exact kk)
theorem cl_X6_60 (X : vCx p s m args c cc RX6 nL z0 D cy) {a1 a2 : Value} {P : CtP} {rm : Room} {mc ms : Nat} (d : decode cc pc = .ok (.invokevirtual 60, 3)) (hM : CtG l yX6_leads cX6_leads 3 (some FieldType.boolean) rm z0 D cy n ad g [.ref (ad k), a1, a2] P mc ms) {e1 : va_E} (hrecv : vAt n g k e1) {fs : List Value} (he : e1 = .inr (6, fs)) (hst : (st.map fun v => v.category).sum ≤ 8) (hR : rm.cells = mc ∧ rm.slots = ms ∧ rm.frames + 1 ≤ R.frames ∧ 8 + (3 + 11) + rm.locals ≤ R.locals ∧ cells + mc ≤ R.cells ∧ slots + ms ≤ R.slots) (kk : ∀ (r : Option Value) (n' : Nat) (ad' : Nat → Nat) (g' : Nat → va_E), P r n' ad' g' → vV p l e R s m args below meth c nL z0 D (cells + mc) (slots + ms) Q n' ad' g' (pc + 3) L (r.toList ++ st)) : vV p l e R s m args below meth c nL z0 D cells slots Q n ad g pc L (a2 :: a1 :: .ref (ad k) :: st) := v_callV (As := [a1, a2]) X wm_X6_60 wi_X6_leads ws_X6_leads wz_X6 wc_X6_leads ⟨rfl, by decide, by decide, (show (parseMethodDescriptor yX6_leads.desc).map (fun d => d.parameters.length) = some 2 from by decide +kernel)⟩ rfl d hM (he ▸ hrecv) rfl hst hR kk
theorem cd_X6_60 (X : vCx p s m args c cc RX6 nL z0 D cy) {a1 a2 : Value} {r : Int32} {g' : Nat → va_E} {fr lo : Nat} (d : decode cc pc = .ok (.invokevirtual 60, 3)) (hM : Ct0 l yX6_leads cX6_leads 3 (some FieldType.boolean) fr lo z0 D cy n ad g [.ref (ad k), a1, a2] (some (.int r)) g') {e1 : va_E} (hrecv : vAt n g k e1) {fs : List Value} (he : e1 = .inr (6, fs)) (hst : (st.map fun v => v.category).sum ≤ 8) (hR : fr + 1 ≤ R.frames ∧ 8 + (3 + 11) + lo ≤ R.locals ∧ cells ≤ R.cells ∧ slots ≤ R.slots) (kk : vV p l e R s m args below meth c nL z0 D cells slots Q n ad g' (pc + 3) L (.int r :: st)) : vV p l e R s m args below meth c nL z0 D cells slots Q n ad g pc L (a2 :: a1 :: .ref (ad k) :: st) := cl_X6_60 X d hM hrecv he hst ⟨rfl, rfl, hR.1, hR.2.1, hR.2.2.1, hR.2.2.2⟩ (fun r1 n1 ad1 g1 hP => by
  obtain ⟨rfl, rfl, rfl, rfl⟩ := hP
  exact kk)
theorem cl_L_53 (X : vCx p s m args c cc RL nL z0 D cy) {a1 a2 : Value} {P : CtP} {rm : Room} {mc ms : Nat} (d : decode cc pc = .ok (.invokevirtual 53, 3)) (hM : CtG l yX4_chain cX4_chain 3 (some FieldType.int) rm z0 D cy n ad g [.ref (ad k), a1, a2] P mc ms) {e1 : va_E} (hrecv : vAt n g k e1) {fs : List Value} (he : e1 = .inr (4, fs)) (hst : (st.map fun v => v.category).sum ≤ 8) (hR : rm.cells = mc ∧ rm.slots = ms ∧ rm.frames + 1 ≤ R.frames ∧ 8 + (3 + 11) + rm.locals ≤ R.locals ∧ cells + mc ≤ R.cells ∧ slots + ms ≤ R.slots) (kk : ∀ (r : Option Value) (n' : Nat) (ad' : Nat → Nat) (g' : Nat → va_E), P r n' ad' g' → vV p l e R s m args below meth c nL z0 D (cells + mc) (slots + ms) Q n' ad' g' (pc + 3) L (r.toList ++ st)) : vV p l e R s m args below meth c nL z0 D cells slots Q n ad g pc L (a2 :: a1 :: .ref (ad k) :: st) := v_callV (As := [a1, a2]) X wm_L_53 wi_X4_chain ws_X4_chain wz_X4 wc_X4_chain ⟨rfl, by decide, by decide, (show (parseMethodDescriptor yX4_chain.desc).map (fun d => d.parameters.length) = some 2 from by decide +kernel)⟩ rfl d hM (he ▸ hrecv) rfl hst hR kk
theorem cd_L_53 (X : vCx p s m args c cc RL nL z0 D cy) {a1 a2 : Value} {r : Int32} {g' : Nat → va_E} {fr lo : Nat} (d : decode cc pc = .ok (.invokevirtual 53, 3)) (hM : Ct0 l yX4_chain cX4_chain 3 (some FieldType.int) fr lo z0 D cy n ad g [.ref (ad k), a1, a2] (some (.int r)) g') {e1 : va_E} (hrecv : vAt n g k e1) {fs : List Value} (he : e1 = .inr (4, fs)) (hst : (st.map fun v => v.category).sum ≤ 8) (hR : fr + 1 ≤ R.frames ∧ 8 + (3 + 11) + lo ≤ R.locals ∧ cells ≤ R.cells ∧ slots ≤ R.slots) (kk : vV p l e R s m args below meth c nL z0 D cells slots Q n ad g' (pc + 3) L (.int r :: st)) : vV p l e R s m args below meth c nL z0 D cells slots Q n ad g pc L (a2 :: a1 :: .ref (ad k) :: st) := cl_L_53 X d hM hrecv he hst ⟨rfl, rfl, hR.1, hR.2.1, hR.2.2.1, hR.2.2.2⟩ (fun r1 n1 ad1 g1 hP => by
  obtain ⟨rfl, rfl, rfl, rfl⟩ := hP
  exact kk)
theorem cl_X4_66 (X : vCx p s m args c cc RX4 nL z0 D cy) {a1 a2 : Value} {P : CtP} {rm : Room} {mc ms : Nat} (d : decode cc pc = .ok (.invokevirtual 66, 3)) (hM : CtG l yX2_flowsThrough cX2_flowsThrough 5 (some FieldType.boolean) rm z0 D cy n ad g [.ref (ad k), a1, a2] P mc ms) {e1 : va_E} (hrecv : vAt n g k e1) {fs : List Value} (he : e1 = .inr (2, fs)) (hst : (st.map fun v => v.category).sum ≤ 8) (hR : rm.cells = mc ∧ rm.slots = ms ∧ rm.frames + 1 ≤ R.frames ∧ 8 + (5 + 11) + rm.locals ≤ R.locals ∧ cells + mc ≤ R.cells ∧ slots + ms ≤ R.slots) (kk : ∀ (r : Option Value) (n' : Nat) (ad' : Nat → Nat) (g' : Nat → va_E), P r n' ad' g' → vV p l e R s m args below meth c nL z0 D (cells + mc) (slots + ms) Q n' ad' g' (pc + 3) L (r.toList ++ st)) : vV p l e R s m args below meth c nL z0 D cells slots Q n ad g pc L (a2 :: a1 :: .ref (ad k) :: st) := v_callV (As := [a1, a2]) X wm_X4_66 wi_X2_flowsThrough ws_X2_flowsThrough wz_X2 wc_X2_flowsThrough ⟨rfl, by decide, by decide, (show (parseMethodDescriptor yX2_flowsThrough.desc).map (fun d => d.parameters.length) = some 2 from by decide +kernel)⟩ rfl d hM (he ▸ hrecv) rfl hst hR kk
theorem cd_X4_66 (X : vCx p s m args c cc RX4 nL z0 D cy) {a1 a2 : Value} {r : Int32} {g' : Nat → va_E} {fr lo : Nat} (d : decode cc pc = .ok (.invokevirtual 66, 3)) (hM : Ct0 l yX2_flowsThrough cX2_flowsThrough 5 (some FieldType.boolean) fr lo z0 D cy n ad g [.ref (ad k), a1, a2] (some (.int r)) g') {e1 : va_E} (hrecv : vAt n g k e1) {fs : List Value} (he : e1 = .inr (2, fs)) (hst : (st.map fun v => v.category).sum ≤ 8) (hR : fr + 1 ≤ R.frames ∧ 8 + (5 + 11) + lo ≤ R.locals ∧ cells ≤ R.cells ∧ slots ≤ R.slots) (kk : vV p l e R s m args below meth c nL z0 D cells slots Q n ad g' (pc + 3) L (.int r :: st)) : vV p l e R s m args below meth c nL z0 D cells slots Q n ad g pc L (a2 :: a1 :: .ref (ad k) :: st) := cl_X4_66 X d hM hrecv he hst ⟨rfl, rfl, hR.1, hR.2.1, hR.2.2.1, hR.2.2.2⟩ (fun r1 n1 ad1 g1 hP => by
  obtain ⟨rfl, rfl, rfl, rfl⟩ := hP
  exact kk)
theorem cl_X4_79 (X : vCx p s m args c cc RX4 nL z0 D cy) {a1 : Value} {P : CtP} {rm : Room} {mc ms : Nat} (d : decode cc pc = .ok (.invokevirtual 79, 3)) (hM : CtG l yX2_chainLength cX2_chainLength 4 (some FieldType.int) rm z0 D cy n ad g [.ref (ad k), a1] P mc ms) {e1 : va_E} (hrecv : vAt n g k e1) {fs : List Value} (he : e1 = .inr (2, fs)) (hst : (st.map fun v => v.category).sum ≤ 8) (hR : rm.cells = mc ∧ rm.slots = ms ∧ rm.frames + 1 ≤ R.frames ∧ 8 + (4 + 11) + rm.locals ≤ R.locals ∧ cells + mc ≤ R.cells ∧ slots + ms ≤ R.slots) (kk : ∀ (r : Option Value) (n' : Nat) (ad' : Nat → Nat) (g' : Nat → va_E), P r n' ad' g' → vV p l e R s m args below meth c nL z0 D (cells + mc) (slots + ms) Q n' ad' g' (pc + 3) L (r.toList ++ st)) : vV p l e R s m args below meth c nL z0 D cells slots Q n ad g pc L (a1 :: .ref (ad k) :: st) := v_callV (As := [a1]) X wm_X4_79 wi_X2_chainLength ws_X2_chainLength wz_X2 wc_X2_chainLength ⟨rfl, by decide, by decide, (show (parseMethodDescriptor yX2_chainLength.desc).map (fun d => d.parameters.length) = some 1 from by decide +kernel)⟩ rfl d hM (he ▸ hrecv) rfl hst hR kk
theorem cd_X4_79 (X : vCx p s m args c cc RX4 nL z0 D cy) {a1 : Value} {r : Int32} {g' : Nat → va_E} {fr lo : Nat} (d : decode cc pc = .ok (.invokevirtual 79, 3)) (hM : Ct0 l yX2_chainLength cX2_chainLength 4 (some FieldType.int) fr lo z0 D cy n ad g [.ref (ad k), a1] (some (.int r)) g') {e1 : va_E} (hrecv : vAt n g k e1) {fs : List Value} (he : e1 = .inr (2, fs)) (hst : (st.map fun v => v.category).sum ≤ 8) (hR : fr + 1 ≤ R.frames ∧ 8 + (4 + 11) + lo ≤ R.locals ∧ cells ≤ R.cells ∧ slots ≤ R.slots) (kk : vV p l e R s m args below meth c nL z0 D cells slots Q n ad g' (pc + 3) L (.int r :: st)) : vV p l e R s m args below meth c nL z0 D cells slots Q n ad g pc L (a1 :: .ref (ad k) :: st) := cl_X4_79 X d hM hrecv he hst ⟨rfl, rfl, hR.1, hR.2.1, hR.2.2.1, hR.2.2.2⟩ (fun r1 n1 ad1 g1 hP => by
  obtain ⟨rfl, rfl, rfl, rfl⟩ := hP
  exact kk)
theorem cl_L_56 (X : vCx p s m args c cc RL nL z0 D cy) {a1 : Value} {P : CtP} {rm : Room} {mc ms : Nat} (d : decode cc pc = .ok (.invokevirtual 56, 3)) (hM : CtG l yX6_behind cX6_behind 2 (some FieldType.int) rm z0 D cy n ad g [.ref (ad k), a1] P mc ms) {e1 : va_E} (hrecv : vAt n g k e1) {fs : List Value} (he : e1 = .inr (6, fs)) (hst : (st.map fun v => v.category).sum ≤ 8) (hR : rm.cells = mc ∧ rm.slots = ms ∧ rm.frames + 1 ≤ R.frames ∧ 8 + (2 + 11) + rm.locals ≤ R.locals ∧ cells + mc ≤ R.cells ∧ slots + ms ≤ R.slots) (kk : ∀ (r : Option Value) (n' : Nat) (ad' : Nat → Nat) (g' : Nat → va_E), P r n' ad' g' → vV p l e R s m args below meth c nL z0 D (cells + mc) (slots + ms) Q n' ad' g' (pc + 3) L (r.toList ++ st)) : vV p l e R s m args below meth c nL z0 D cells slots Q n ad g pc L (a1 :: .ref (ad k) :: st) := v_callV (As := [a1]) X wm_L_56 wi_X6_behind ws_X6_behind wz_X6 wc_X6_behind ⟨rfl, by decide, by decide, (show (parseMethodDescriptor yX6_behind.desc).map (fun d => d.parameters.length) = some 1 from by decide +kernel)⟩ rfl d hM (he ▸ hrecv) rfl hst hR kk
theorem cd_L_56 (X : vCx p s m args c cc RL nL z0 D cy) {a1 : Value} {r : Int32} {g' : Nat → va_E} {fr lo : Nat} (d : decode cc pc = .ok (.invokevirtual 56, 3)) (hM : Ct0 l yX6_behind cX6_behind 2 (some FieldType.int) fr lo z0 D cy n ad g [.ref (ad k), a1] (some (.int r)) g') {e1 : va_E} (hrecv : vAt n g k e1) {fs : List Value} (he : e1 = .inr (6, fs)) (hst : (st.map fun v => v.category).sum ≤ 8) (hR : fr + 1 ≤ R.frames ∧ 8 + (2 + 11) + lo ≤ R.locals ∧ cells ≤ R.cells ∧ slots ≤ R.slots) (kk : vV p l e R s m args below meth c nL z0 D cells slots Q n ad g' (pc + 3) L (.int r :: st)) : vV p l e R s m args below meth c nL z0 D cells slots Q n ad g pc L (a1 :: .ref (ad k) :: st) := cl_L_56 X d hM hrecv he hst ⟨rfl, rfl, hR.1, hR.2.1, hR.2.2.1, hR.2.2.2⟩ (fun r1 n1 ad1 g1 hP => by
  obtain ⟨rfl, rfl, rfl, rfl⟩ := hP
  exact kk)
theorem cl_X6_64 (X : vCx p s m args c cc RX6 nL z0 D cy) {a1 : Value} {P : CtP} {rm : Room} {mc ms : Nat} (d : decode cc pc = .ok (.invokevirtual 64, 3)) (hM : CtG l yX6_behind cX6_behind 2 (some FieldType.int) rm z0 D cy n ad g [.ref (ad k), a1] P mc ms) {e1 : va_E} (hrecv : vAt n g k e1) {fs : List Value} (he : e1 = .inr (6, fs)) (hst : (st.map fun v => v.category).sum ≤ 8) (hR : rm.cells = mc ∧ rm.slots = ms ∧ rm.frames + 1 ≤ R.frames ∧ 8 + (2 + 11) + rm.locals ≤ R.locals ∧ cells + mc ≤ R.cells ∧ slots + ms ≤ R.slots) (kk : ∀ (r : Option Value) (n' : Nat) (ad' : Nat → Nat) (g' : Nat → va_E), P r n' ad' g' → vV p l e R s m args below meth c nL z0 D (cells + mc) (slots + ms) Q n' ad' g' (pc + 3) L (r.toList ++ st)) : vV p l e R s m args below meth c nL z0 D cells slots Q n ad g pc L (a1 :: .ref (ad k) :: st) := v_callV (As := [a1]) X wm_X6_64 wi_X6_behind ws_X6_behind wz_X6 wc_X6_behind ⟨rfl, by decide, by decide, (show (parseMethodDescriptor yX6_behind.desc).map (fun d => d.parameters.length) = some 1 from by decide +kernel)⟩ rfl d hM (he ▸ hrecv) rfl hst hR kk
theorem cd_X6_64 (X : vCx p s m args c cc RX6 nL z0 D cy) {a1 : Value} {r : Int32} {g' : Nat → va_E} {fr lo : Nat} (d : decode cc pc = .ok (.invokevirtual 64, 3)) (hM : Ct0 l yX6_behind cX6_behind 2 (some FieldType.int) fr lo z0 D cy n ad g [.ref (ad k), a1] (some (.int r)) g') {e1 : va_E} (hrecv : vAt n g k e1) {fs : List Value} (he : e1 = .inr (6, fs)) (hst : (st.map fun v => v.category).sum ≤ 8) (hR : fr + 1 ≤ R.frames ∧ 8 + (2 + 11) + lo ≤ R.locals ∧ cells ≤ R.cells ∧ slots ≤ R.slots) (kk : vV p l e R s m args below meth c nL z0 D cells slots Q n ad g' (pc + 3) L (.int r :: st)) : vV p l e R s m args below meth c nL z0 D cells slots Q n ad g pc L (a1 :: .ref (ad k) :: st) := cl_X6_64 X d hM hrecv he hst ⟨rfl, rfl, hR.1, hR.2.1, hR.2.2.1, hR.2.2.2⟩ (fun r1 n1 ad1 g1 hP => by
  obtain ⟨rfl, rfl, rfl, rfl⟩ := hP
  exact kk)
theorem cl_L_60 (X : vCx p s m args c cc RL nL z0 D cy) {a1 a2 a3 : Value} {P : CtP} {rm : Room} {mc ms : Nat} (d : decode cc pc = .ok (.invokevirtual 60, 3)) (hM : CtG l yX4_lay cX4_lay 4 (some FieldType.int) rm z0 D cy n ad g [.ref (ad k), a1, a2, a3] P mc ms) {e1 : va_E} (hrecv : vAt n g k e1) {fs : List Value} (he : e1 = .inr (4, fs)) (hst : (st.map fun v => v.category).sum ≤ 8) (hR : rm.cells = mc ∧ rm.slots = ms ∧ rm.frames + 1 ≤ R.frames ∧ 8 + (4 + 11) + rm.locals ≤ R.locals ∧ cells + mc ≤ R.cells ∧ slots + ms ≤ R.slots) (kk : ∀ (r : Option Value) (n' : Nat) (ad' : Nat → Nat) (g' : Nat → va_E), P r n' ad' g' → vV p l e R s m args below meth c nL z0 D (cells + mc) (slots + ms) Q n' ad' g' (pc + 3) L (r.toList ++ st)) : vV p l e R s m args below meth c nL z0 D cells slots Q n ad g pc L (a3 :: a2 :: a1 :: .ref (ad k) :: st) := v_callV (As := [a1, a2, a3]) X wm_L_60 wi_X4_lay ws_X4_lay wz_X4 wc_X4_lay ⟨rfl, by decide, by decide, (show (parseMethodDescriptor yX4_lay.desc).map (fun d => d.parameters.length) = some 3 from by decide +kernel)⟩ rfl d hM (he ▸ hrecv) rfl hst hR kk
theorem cd_L_60 (X : vCx p s m args c cc RL nL z0 D cy) {a1 a2 a3 : Value} {r : Int32} {g' : Nat → va_E} {fr lo : Nat} (d : decode cc pc = .ok (.invokevirtual 60, 3)) (hM : Ct0 l yX4_lay cX4_lay 4 (some FieldType.int) fr lo z0 D cy n ad g [.ref (ad k), a1, a2, a3] (some (.int r)) g') {e1 : va_E} (hrecv : vAt n g k e1) {fs : List Value} (he : e1 = .inr (4, fs)) (hst : (st.map fun v => v.category).sum ≤ 8) (hR : fr + 1 ≤ R.frames ∧ 8 + (4 + 11) + lo ≤ R.locals ∧ cells ≤ R.cells ∧ slots ≤ R.slots) (kk : vV p l e R s m args below meth c nL z0 D cells slots Q n ad g' (pc + 3) L (.int r :: st)) : vV p l e R s m args below meth c nL z0 D cells slots Q n ad g pc L (a3 :: a2 :: a1 :: .ref (ad k) :: st) := cl_L_60 X d hM hrecv he hst ⟨rfl, rfl, hR.1, hR.2.1, hR.2.2.1, hR.2.2.2⟩ (fun r1 n1 ad1 g1 hP => by
  obtain ⟨rfl, rfl, rfl, rfl⟩ := hP
  exact kk)
theorem cl_X4_85 (X : vCx p s m args c cc RX4 nL z0 D cy) {a1 a2 a3 : Value} {P : CtP} {rm : Room} {mc ms : Nat} (d : decode cc pc = .ok (.invokevirtual 85, 3)) (hM : CtG l yX2_addPipe cX2_addPipe 5 (some FieldType.int) rm z0 D cy n ad g [.ref (ad k), a1, a2, a3] P mc ms) {e1 : va_E} (hrecv : vAt n g k e1) {fs : List Value} (he : e1 = .inr (2, fs)) (hst : (st.map fun v => v.category).sum ≤ 8) (hR : rm.cells = mc ∧ rm.slots = ms ∧ rm.frames + 1 ≤ R.frames ∧ 8 + (5 + 11) + rm.locals ≤ R.locals ∧ cells + mc ≤ R.cells ∧ slots + ms ≤ R.slots) (kk : ∀ (r : Option Value) (n' : Nat) (ad' : Nat → Nat) (g' : Nat → va_E), P r n' ad' g' → vV p l e R s m args below meth c nL z0 D (cells + mc) (slots + ms) Q n' ad' g' (pc + 3) L (r.toList ++ st)) : vV p l e R s m args below meth c nL z0 D cells slots Q n ad g pc L (a3 :: a2 :: a1 :: .ref (ad k) :: st) := v_callV (As := [a1, a2, a3]) X wm_X4_85 wi_X2_addPipe ws_X2_addPipe wz_X2 wc_X2_addPipe ⟨rfl, by decide, by decide, (show (parseMethodDescriptor yX2_addPipe.desc).map (fun d => d.parameters.length) = some 3 from by decide +kernel)⟩ rfl d hM (he ▸ hrecv) rfl hst hR kk
theorem cd_X4_85 (X : vCx p s m args c cc RX4 nL z0 D cy) {a1 a2 a3 : Value} {r : Int32} {g' : Nat → va_E} {fr lo : Nat} (d : decode cc pc = .ok (.invokevirtual 85, 3)) (hM : Ct0 l yX2_addPipe cX2_addPipe 5 (some FieldType.int) fr lo z0 D cy n ad g [.ref (ad k), a1, a2, a3] (some (.int r)) g') {e1 : va_E} (hrecv : vAt n g k e1) {fs : List Value} (he : e1 = .inr (2, fs)) (hst : (st.map fun v => v.category).sum ≤ 8) (hR : fr + 1 ≤ R.frames ∧ 8 + (5 + 11) + lo ≤ R.locals ∧ cells ≤ R.cells ∧ slots ≤ R.slots) (kk : vV p l e R s m args below meth c nL z0 D cells slots Q n ad g' (pc + 3) L (.int r :: st)) : vV p l e R s m args below meth c nL z0 D cells slots Q n ad g pc L (a3 :: a2 :: a1 :: .ref (ad k) :: st) := cl_X4_85 X d hM hrecv he hst ⟨rfl, rfl, hR.1, hR.2.1, hR.2.2.1, hR.2.2.2⟩ (fun r1 n1 ad1 g1 hP => by
  obtain ⟨rfl, rfl, rfl, rfl⟩ := hP
  exact kk)
theorem cl_L_63 (X : vCx p s m args c cc RL nL z0 D cy) {a1 a2 a3 : Value} {P : CtP} {rm : Room} {mc ms : Nat} (d : decode cc pc = .ok (.invokevirtual 63, 3)) (hM : CtG l yX6_lay cX6_lay 6 none rm z0 D cy n ad g [.ref (ad k), a1, a2, a3] P mc ms) {e1 : va_E} (hrecv : vAt n g k e1) {fs : List Value} (he : e1 = .inr (6, fs)) (hst : (st.map fun v => v.category).sum ≤ 8) (hR : rm.cells = mc ∧ rm.slots = ms ∧ rm.frames + 1 ≤ R.frames ∧ 8 + (6 + 11) + rm.locals ≤ R.locals ∧ cells + mc ≤ R.cells ∧ slots + ms ≤ R.slots) (kk : ∀ (r : Option Value) (n' : Nat) (ad' : Nat → Nat) (g' : Nat → va_E), P r n' ad' g' → vV p l e R s m args below meth c nL z0 D (cells + mc) (slots + ms) Q n' ad' g' (pc + 3) L (r.toList ++ st)) : vV p l e R s m args below meth c nL z0 D cells slots Q n ad g pc L (a3 :: a2 :: a1 :: .ref (ad k) :: st) := v_callV (As := [a1, a2, a3]) X wm_L_63 wi_X6_lay ws_X6_lay wz_X6 wc_X6_lay ⟨rfl, by decide, by decide, (show (parseMethodDescriptor yX6_lay.desc).map (fun d => d.parameters.length) = some 3 from by decide +kernel)⟩ rfl d hM (he ▸ hrecv) rfl hst hR kk
theorem cd_L_63 (X : vCx p s m args c cc RL nL z0 D cy) {a1 a2 a3 : Value} {g' : Nat → va_E} {fr lo : Nat} (d : decode cc pc = .ok (.invokevirtual 63, 3)) (hM : Ct0 l yX6_lay cX6_lay 6 none fr lo z0 D cy n ad g [.ref (ad k), a1, a2, a3] none g') {e1 : va_E} (hrecv : vAt n g k e1) {fs : List Value} (he : e1 = .inr (6, fs)) (hst : (st.map fun v => v.category).sum ≤ 8) (hR : fr + 1 ≤ R.frames ∧ 8 + (6 + 11) + lo ≤ R.locals ∧ cells ≤ R.cells ∧ slots ≤ R.slots) (kk : vV p l e R s m args below meth c nL z0 D cells slots Q n ad g' (pc + 3) L st) : vV p l e R s m args below meth c nL z0 D cells slots Q n ad g pc L (a3 :: a2 :: a1 :: .ref (ad k) :: st) := cl_L_63 X d hM hrecv he hst ⟨rfl, rfl, hR.1, hR.2.1, hR.2.2.1, hR.2.2.2⟩ (fun r1 n1 ad1 g1 hP => by
  obtain ⟨rfl, rfl, rfl, rfl⟩ := hP
  exact kk)
theorem cl_L_98 (X : vCx p s m args c cc RL nL z0 D cy) {a1 a2 a3 : Value} {P : CtP} {rm : Room} {mc ms : Nat} (d : decode cc pc = .ok (.invokestatic 98, 3)) (hM : CtG l yL_act cL_act 14 (some FieldType.boolean) rm z0 D cy n ad g [a1, a2, a3] P mc ms) (hst : (st.map fun v => v.category).sum ≤ 8) (hR : rm.cells = mc ∧ rm.slots = ms ∧ rm.frames + 1 ≤ R.frames ∧ 8 + (14 + 11) + rm.locals ≤ R.locals ∧ cells + mc ≤ R.cells ∧ slots + ms ≤ R.slots) (kk : ∀ (r : Option Value) (n' : Nat) (ad' : Nat → Nat) (g' : Nat → va_E), P r n' ad' g' → vV p l e R s m args below meth c nL z0 D (cells + mc) (slots + ms) Q n' ad' g' (pc + 3) L (r.toList ++ st)) : vV p l e R s m args below meth c nL z0 D cells slots Q n ad g pc L (a3 :: a2 :: a1 :: st) := v_callS (As := [a1, a2, a3]) X wm_L_98 wt_L_act wz_L wc_L_act ⟨by decide, by decide, (show (parseMethodDescriptor yL_act.desc).map (fun d => d.parameters.length) = some 3 from by decide +kernel)⟩ d hM rfl hst hR kk
theorem cd_L_98 (X : vCx p s m args c cc RL nL z0 D cy) {a1 a2 a3 : Value} {r : Int32} {g' : Nat → va_E} {fr lo : Nat} (d : decode cc pc = .ok (.invokestatic 98, 3)) (hM : Ct0 l yL_act cL_act 14 (some FieldType.boolean) fr lo z0 D cy n ad g [a1, a2, a3] (some (.int r)) g') (hst : (st.map fun v => v.category).sum ≤ 8) (hR : fr + 1 ≤ R.frames ∧ 8 + (14 + 11) + lo ≤ R.locals ∧ cells ≤ R.cells ∧ slots ≤ R.slots) (kk : vV p l e R s m args below meth c nL z0 D cells slots Q n ad g' (pc + 3) L (.int r :: st)) : vV p l e R s m args below meth c nL z0 D cells slots Q n ad g pc L (a3 :: a2 :: a1 :: st) := cl_L_98 X d hM hst ⟨rfl, rfl, hR.1, hR.2.1, hR.2.2.1, hR.2.2.2⟩ (fun r1 n1 ad1 g1 hP => by
  obtain ⟨rfl, rfl, rfl, rfl⟩ := hP
  exact kk)
theorem cl_L_69 (X : vCx p s m args c cc RL nL z0 D cy) {a1 a2 : Value} {P : CtP} {rm : Room} {mc ms : Nat} (d : decode cc pc = .ok (.invokevirtual 69, 3)) (hM : CtG l yX4_cart cX4_cart 3 (some FieldType.int) rm z0 D cy n ad g [.ref (ad k), a1, a2] P mc ms) {e1 : va_E} (hrecv : vAt n g k e1) {fs : List Value} (he : e1 = .inr (4, fs)) (hst : (st.map fun v => v.category).sum ≤ 8) (hR : rm.cells = mc ∧ rm.slots = ms ∧ rm.frames + 1 ≤ R.frames ∧ 8 + (3 + 11) + rm.locals ≤ R.locals ∧ cells + mc ≤ R.cells ∧ slots + ms ≤ R.slots) (kk : ∀ (r : Option Value) (n' : Nat) (ad' : Nat → Nat) (g' : Nat → va_E), P r n' ad' g' → vV p l e R s m args below meth c nL z0 D (cells + mc) (slots + ms) Q n' ad' g' (pc + 3) L (r.toList ++ st)) : vV p l e R s m args below meth c nL z0 D cells slots Q n ad g pc L (a2 :: a1 :: .ref (ad k) :: st) := v_callV (As := [a1, a2]) X wm_L_69 wi_X4_cart ws_X4_cart wz_X4 wc_X4_cart ⟨rfl, by decide, by decide, (show (parseMethodDescriptor yX4_cart.desc).map (fun d => d.parameters.length) = some 2 from by decide +kernel)⟩ rfl d hM (he ▸ hrecv) rfl hst hR kk
theorem cd_L_69 (X : vCx p s m args c cc RL nL z0 D cy) {a1 a2 : Value} {r : Int32} {g' : Nat → va_E} {fr lo : Nat} (d : decode cc pc = .ok (.invokevirtual 69, 3)) (hM : Ct0 l yX4_cart cX4_cart 3 (some FieldType.int) fr lo z0 D cy n ad g [.ref (ad k), a1, a2] (some (.int r)) g') {e1 : va_E} (hrecv : vAt n g k e1) {fs : List Value} (he : e1 = .inr (4, fs)) (hst : (st.map fun v => v.category).sum ≤ 8) (hR : fr + 1 ≤ R.frames ∧ 8 + (3 + 11) + lo ≤ R.locals ∧ cells ≤ R.cells ∧ slots ≤ R.slots) (kk : vV p l e R s m args below meth c nL z0 D cells slots Q n ad g' (pc + 3) L (.int r :: st)) : vV p l e R s m args below meth c nL z0 D cells slots Q n ad g pc L (a2 :: a1 :: .ref (ad k) :: st) := cl_L_69 X d hM hrecv he hst ⟨rfl, rfl, hR.1, hR.2.1, hR.2.2.1, hR.2.2.2⟩ (fun r1 n1 ad1 g1 hP => by
  obtain ⟨rfl, rfl, rfl, rfl⟩ := hP
  exact kk)
theorem cl_X4_108 (X : vCx p s m args c cc RX4 nL z0 D cy) {a1 a2 : Value} {P : CtP} {rm : Room} {mc ms : Nat} (d : decode cc pc = .ok (.invokevirtual 108, 3)) (hM : CtG l yX2_pour cX2_pour 6 (some FieldType.int) rm z0 D cy n ad g [.ref (ad k), a1, a2] P mc ms) {e1 : va_E} (hrecv : vAt n g k e1) {fs : List Value} (he : e1 = .inr (2, fs)) (hst : (st.map fun v => v.category).sum ≤ 8) (hR : rm.cells = mc ∧ rm.slots = ms ∧ rm.frames + 1 ≤ R.frames ∧ 8 + (6 + 11) + rm.locals ≤ R.locals ∧ cells + mc ≤ R.cells ∧ slots + ms ≤ R.slots) (kk : ∀ (r : Option Value) (n' : Nat) (ad' : Nat → Nat) (g' : Nat → va_E), P r n' ad' g' → vV p l e R s m args below meth c nL z0 D (cells + mc) (slots + ms) Q n' ad' g' (pc + 3) L (r.toList ++ st)) : vV p l e R s m args below meth c nL z0 D cells slots Q n ad g pc L (a2 :: a1 :: .ref (ad k) :: st) := v_callV (As := [a1, a2]) X wm_X4_108 wi_X2_pour ws_X2_pour wz_X2 wc_X2_pour ⟨rfl, by decide, by decide, (show (parseMethodDescriptor yX2_pour.desc).map (fun d => d.parameters.length) = some 2 from by decide +kernel)⟩ rfl d hM (he ▸ hrecv) rfl hst hR kk
theorem cd_X4_108 (X : vCx p s m args c cc RX4 nL z0 D cy) {a1 a2 : Value} {r : Int32} {g' : Nat → va_E} {fr lo : Nat} (d : decode cc pc = .ok (.invokevirtual 108, 3)) (hM : Ct0 l yX2_pour cX2_pour 6 (some FieldType.int) fr lo z0 D cy n ad g [.ref (ad k), a1, a2] (some (.int r)) g') {e1 : va_E} (hrecv : vAt n g k e1) {fs : List Value} (he : e1 = .inr (2, fs)) (hst : (st.map fun v => v.category).sum ≤ 8) (hR : fr + 1 ≤ R.frames ∧ 8 + (6 + 11) + lo ≤ R.locals ∧ cells ≤ R.cells ∧ slots ≤ R.slots) (kk : vV p l e R s m args below meth c nL z0 D cells slots Q n ad g' (pc + 3) L (.int r :: st)) : vV p l e R s m args below meth c nL z0 D cells slots Q n ad g pc L (a2 :: a1 :: .ref (ad k) :: st) := cl_X4_108 X d hM hrecv he hst ⟨rfl, rfl, hR.1, hR.2.1, hR.2.2.1, hR.2.2.2⟩ (fun r1 n1 ad1 g1 hP => by
  obtain ⟨rfl, rfl, rfl, rfl⟩ := hP
  exact kk)
theorem cl_L_72 (X : vCx p s m args c cc RL nL z0 D cy) {a1 a2 : Value} {P : CtP} {rm : Room} {mc ms : Nat} (d : decode cc pc = .ok (.invokevirtual 72, 3)) (hM : CtG l yX6_pour cX6_pour 5 (some FieldType.int) rm z0 D cy n ad g [.ref (ad k), a1, a2] P mc ms) {e1 : va_E} (hrecv : vAt n g k e1) {fs : List Value} (he : e1 = .inr (6, fs)) (hst : (st.map fun v => v.category).sum ≤ 8) (hR : rm.cells = mc ∧ rm.slots = ms ∧ rm.frames + 1 ≤ R.frames ∧ 8 + (5 + 11) + rm.locals ≤ R.locals ∧ cells + mc ≤ R.cells ∧ slots + ms ≤ R.slots) (kk : ∀ (r : Option Value) (n' : Nat) (ad' : Nat → Nat) (g' : Nat → va_E), P r n' ad' g' → vV p l e R s m args below meth c nL z0 D (cells + mc) (slots + ms) Q n' ad' g' (pc + 3) L (r.toList ++ st)) : vV p l e R s m args below meth c nL z0 D cells slots Q n ad g pc L (a2 :: a1 :: .ref (ad k) :: st) := v_callV (As := [a1, a2]) X wm_L_72 wi_X6_pour ws_X6_pour wz_X6 wc_X6_pour ⟨rfl, by decide, by decide, (show (parseMethodDescriptor yX6_pour.desc).map (fun d => d.parameters.length) = some 2 from by decide +kernel)⟩ rfl d hM (he ▸ hrecv) rfl hst hR kk
theorem cd_L_72 (X : vCx p s m args c cc RL nL z0 D cy) {a1 a2 : Value} {r : Int32} {g' : Nat → va_E} {fr lo : Nat} (d : decode cc pc = .ok (.invokevirtual 72, 3)) (hM : Ct0 l yX6_pour cX6_pour 5 (some FieldType.int) fr lo z0 D cy n ad g [.ref (ad k), a1, a2] (some (.int r)) g') {e1 : va_E} (hrecv : vAt n g k e1) {fs : List Value} (he : e1 = .inr (6, fs)) (hst : (st.map fun v => v.category).sum ≤ 8) (hR : fr + 1 ≤ R.frames ∧ 8 + (5 + 11) + lo ≤ R.locals ∧ cells ≤ R.cells ∧ slots ≤ R.slots) (kk : vV p l e R s m args below meth c nL z0 D cells slots Q n ad g' (pc + 3) L (.int r :: st)) : vV p l e R s m args below meth c nL z0 D cells slots Q n ad g pc L (a2 :: a1 :: .ref (ad k) :: st) := cl_L_72 X d hM hrecv he hst ⟨rfl, rfl, hR.1, hR.2.1, hR.2.2.1, hR.2.2.2⟩ (fun r1 n1 ad1 g1 hP => by
  obtain ⟨rfl, rfl, rfl, rfl⟩ := hP
  exact kk)
theorem cl_L_78 (X : vCx p s m args c cc RL nL z0 D cy) {a1 : Value} {P : CtP} {rm : Room} {mc ms : Nat} (d : decode cc pc = .ok (.invokevirtual 78, 3)) (hM : CtG l yX4_clean cX4_clean 3 (some FieldType.int) rm z0 D cy n ad g [.ref (ad k), a1] P mc ms) {e1 : va_E} (hrecv : vAt n g k e1) {fs : List Value} (he : e1 = .inr (4, fs)) (hst : (st.map fun v => v.category).sum ≤ 8) (hR : rm.cells = mc ∧ rm.slots = ms ∧ rm.frames + 1 ≤ R.frames ∧ 8 + (3 + 11) + rm.locals ≤ R.locals ∧ cells + mc ≤ R.cells ∧ slots + ms ≤ R.slots) (kk : ∀ (r : Option Value) (n' : Nat) (ad' : Nat → Nat) (g' : Nat → va_E), P r n' ad' g' → vV p l e R s m args below meth c nL z0 D (cells + mc) (slots + ms) Q n' ad' g' (pc + 3) L (r.toList ++ st)) : vV p l e R s m args below meth c nL z0 D cells slots Q n ad g pc L (a1 :: .ref (ad k) :: st) := v_callV (As := [a1]) X wm_L_78 wi_X4_clean ws_X4_clean wz_X4 wc_X4_clean ⟨rfl, by decide, by decide, (show (parseMethodDescriptor yX4_clean.desc).map (fun d => d.parameters.length) = some 1 from by decide +kernel)⟩ rfl d hM (he ▸ hrecv) rfl hst hR kk
theorem cd_L_78 (X : vCx p s m args c cc RL nL z0 D cy) {a1 : Value} {r : Int32} {g' : Nat → va_E} {fr lo : Nat} (d : decode cc pc = .ok (.invokevirtual 78, 3)) (hM : Ct0 l yX4_clean cX4_clean 3 (some FieldType.int) fr lo z0 D cy n ad g [.ref (ad k), a1] (some (.int r)) g') {e1 : va_E} (hrecv : vAt n g k e1) {fs : List Value} (he : e1 = .inr (4, fs)) (hst : (st.map fun v => v.category).sum ≤ 8) (hR : fr + 1 ≤ R.frames ∧ 8 + (3 + 11) + lo ≤ R.locals ∧ cells ≤ R.cells ∧ slots ≤ R.slots) (kk : vV p l e R s m args below meth c nL z0 D cells slots Q n ad g' (pc + 3) L (.int r :: st)) : vV p l e R s m args below meth c nL z0 D cells slots Q n ad g pc L (a1 :: .ref (ad k) :: st) := cl_L_78 X d hM hrecv he hst ⟨rfl, rfl, hR.1, hR.2.1, hR.2.2.1, hR.2.2.2⟩ (fun r1 n1 ad1 g1 hP => by
  obtain ⟨rfl, rfl, rfl, rfl⟩ := hP
  exact kk)
theorem cl_L_84 (X : vCx p s m args c cc RL nL z0 D cy) {a1 a2 : Value} {P : CtP} {rm : Room} {mc ms : Nat} (d : decode cc pc = .ok (.invokevirtual 84, 3)) (hM : CtG l yX4_turn cX4_turn 4 (some FieldType.boolean) rm z0 D cy n ad g [.ref (ad k), a1, a2] P mc ms) {e1 : va_E} (hrecv : vAt n g k e1) {fs : List Value} (he : e1 = .inr (4, fs)) (hst : (st.map fun v => v.category).sum ≤ 8) (hR : rm.cells = mc ∧ rm.slots = ms ∧ rm.frames + 1 ≤ R.frames ∧ 8 + (4 + 11) + rm.locals ≤ R.locals ∧ cells + mc ≤ R.cells ∧ slots + ms ≤ R.slots) (kk : ∀ (r : Option Value) (n' : Nat) (ad' : Nat → Nat) (g' : Nat → va_E), P r n' ad' g' → vV p l e R s m args below meth c nL z0 D (cells + mc) (slots + ms) Q n' ad' g' (pc + 3) L (r.toList ++ st)) : vV p l e R s m args below meth c nL z0 D cells slots Q n ad g pc L (a2 :: a1 :: .ref (ad k) :: st) := v_callV (As := [a1, a2]) X wm_L_84 wi_X4_turn ws_X4_turn wz_X4 wc_X4_turn ⟨rfl, by decide, by decide, (show (parseMethodDescriptor yX4_turn.desc).map (fun d => d.parameters.length) = some 2 from by decide +kernel)⟩ rfl d hM (he ▸ hrecv) rfl hst hR kk
theorem cd_L_84 (X : vCx p s m args c cc RL nL z0 D cy) {a1 a2 : Value} {r : Int32} {g' : Nat → va_E} {fr lo : Nat} (d : decode cc pc = .ok (.invokevirtual 84, 3)) (hM : Ct0 l yX4_turn cX4_turn 4 (some FieldType.boolean) fr lo z0 D cy n ad g [.ref (ad k), a1, a2] (some (.int r)) g') {e1 : va_E} (hrecv : vAt n g k e1) {fs : List Value} (he : e1 = .inr (4, fs)) (hst : (st.map fun v => v.category).sum ≤ 8) (hR : fr + 1 ≤ R.frames ∧ 8 + (4 + 11) + lo ≤ R.locals ∧ cells ≤ R.cells ∧ slots ≤ R.slots) (kk : vV p l e R s m args below meth c nL z0 D cells slots Q n ad g' (pc + 3) L (.int r :: st)) : vV p l e R s m args below meth c nL z0 D cells slots Q n ad g pc L (a2 :: a1 :: .ref (ad k) :: st) := cl_L_84 X d hM hrecv he hst ⟨rfl, rfl, hR.1, hR.2.1, hR.2.2.1, hR.2.2.2⟩ (fun r1 n1 ad1 g1 hP => by
  obtain ⟨rfl, rfl, rfl, rfl⟩ := hP
  exact kk)
theorem cl_L_91 (X : vCx p s m args c cc RL nL z0 D cy) {a1 a2 : Value} {P : CtP} {rm : Room} {mc ms : Nat} (d : decode cc pc = .ok (.invokevirtual 91, 3)) (hM : CtG l yX4_setPeople cX4_setPeople 4 (some FieldType.int) rm z0 D cy n ad g [.ref (ad k), a1, a2] P mc ms) {e1 : va_E} (hrecv : vAt n g k e1) {fs : List Value} (he : e1 = .inr (4, fs)) (hst : (st.map fun v => v.category).sum ≤ 8) (hR : rm.cells = mc ∧ rm.slots = ms ∧ rm.frames + 1 ≤ R.frames ∧ 8 + (4 + 11) + rm.locals ≤ R.locals ∧ cells + mc ≤ R.cells ∧ slots + ms ≤ R.slots) (kk : ∀ (r : Option Value) (n' : Nat) (ad' : Nat → Nat) (g' : Nat → va_E), P r n' ad' g' → vV p l e R s m args below meth c nL z0 D (cells + mc) (slots + ms) Q n' ad' g' (pc + 3) L (r.toList ++ st)) : vV p l e R s m args below meth c nL z0 D cells slots Q n ad g pc L (a2 :: a1 :: .ref (ad k) :: st) := v_callV (As := [a1, a2]) X wm_L_91 wi_X4_setPeople ws_X4_setPeople wz_X4 wc_X4_setPeople ⟨rfl, by decide, by decide, (show (parseMethodDescriptor yX4_setPeople.desc).map (fun d => d.parameters.length) = some 2 from by decide +kernel)⟩ rfl d hM (he ▸ hrecv) rfl hst hR kk
theorem cd_L_91 (X : vCx p s m args c cc RL nL z0 D cy) {a1 a2 : Value} {r : Int32} {g' : Nat → va_E} {fr lo : Nat} (d : decode cc pc = .ok (.invokevirtual 91, 3)) (hM : Ct0 l yX4_setPeople cX4_setPeople 4 (some FieldType.int) fr lo z0 D cy n ad g [.ref (ad k), a1, a2] (some (.int r)) g') {e1 : va_E} (hrecv : vAt n g k e1) {fs : List Value} (he : e1 = .inr (4, fs)) (hst : (st.map fun v => v.category).sum ≤ 8) (hR : fr + 1 ≤ R.frames ∧ 8 + (4 + 11) + lo ≤ R.locals ∧ cells ≤ R.cells ∧ slots ≤ R.slots) (kk : vV p l e R s m args below meth c nL z0 D cells slots Q n ad g' (pc + 3) L (.int r :: st)) : vV p l e R s m args below meth c nL z0 D cells slots Q n ad g pc L (a2 :: a1 :: .ref (ad k) :: st) := cl_L_91 X d hM hrecv he hst ⟨rfl, rfl, hR.1, hR.2.1, hR.2.2.1, hR.2.2.2⟩ (fun r1 n1 ad1 g1 hP => by
  obtain ⟨rfl, rfl, rfl, rfl⟩ := hP
  exact kk)
theorem cl_L_130 (X : vCx p s m args c cc RL nL z0 D cy) {a1 a2 : Value} {P : CtP} {rm : Room} {mc ms : Nat} (d : decode cc pc = .ok (.invokestatic 130, 3)) (hM : CtG l yJ9_min_7cf53 cJ9_min_7cf53 2 (some FieldType.int) rm z0 D cy n ad g [a1, a2] P mc ms) (hst : (st.map fun v => v.category).sum ≤ 8) (hR : rm.cells = mc ∧ rm.slots = ms ∧ rm.frames + 1 ≤ R.frames ∧ 8 + (2 + 11) + rm.locals ≤ R.locals ∧ cells + mc ≤ R.cells ∧ slots + ms ≤ R.slots) (kk : ∀ (r : Option Value) (n' : Nat) (ad' : Nat → Nat) (g' : Nat → va_E), P r n' ad' g' → vV p l e R s m args below meth c nL z0 D (cells + mc) (slots + ms) Q n' ad' g' (pc + 3) L (r.toList ++ st)) : vV p l e R s m args below meth c nL z0 D cells slots Q n ad g pc L (a2 :: a1 :: st) := v_callS (As := [a1, a2]) X wm_L_130 wt_J9_min_7cf53 wz_J9 wc_J9_min_7cf53 ⟨by decide, by decide, (show (parseMethodDescriptor yJ9_min_7cf53.desc).map (fun d => d.parameters.length) = some 2 from by decide +kernel)⟩ d hM rfl hst hR kk
theorem cd_L_130 (X : vCx p s m args c cc RL nL z0 D cy) {a1 a2 : Value} {r : Int32} {g' : Nat → va_E} {fr lo : Nat} (d : decode cc pc = .ok (.invokestatic 130, 3)) (hM : Ct0 l yJ9_min_7cf53 cJ9_min_7cf53 2 (some FieldType.int) fr lo z0 D cy n ad g [a1, a2] (some (.int r)) g') (hst : (st.map fun v => v.category).sum ≤ 8) (hR : fr + 1 ≤ R.frames ∧ 8 + (2 + 11) + lo ≤ R.locals ∧ cells ≤ R.cells ∧ slots ≤ R.slots) (kk : vV p l e R s m args below meth c nL z0 D cells slots Q n ad g' (pc + 3) L (.int r :: st)) : vV p l e R s m args below meth c nL z0 D cells slots Q n ad g pc L (a2 :: a1 :: st) := cl_L_130 X d hM hst ⟨rfl, rfl, hR.1, hR.2.1, hR.2.2.1, hR.2.2.2⟩ (fun r1 n1 ad1 g1 hP => by
  obtain ⟨rfl, rfl, rfl, rfl⟩ := hP
  exact kk)
end SP
end
section
/-! the state as numbers, and its cells -/
def jmin (x y : Int32) : Int32 := if y < x then y else x
def jmax (x y : Int32) : Int32 := if x < y then y else x
def jabs (x : Int32) : Int32 := if 0 ≤ x then x else 0 - x
abbrev tS : Type := Nat × Nat × (Nat → Nat → Int32) × (Nat → Nat → Int32) × (Nat → Int32) × (Nat → Int32)
/-- houses, pipes, the houses' numbers, the pipes' numbers, who got what from whom, the village's numbers (day, from roofs, lost, drunk, carted) -/
abbrev sN (S : tS) : Nat := S.1
abbrev sP (S : tS) : Nat := S.2.1
abbrev sH (S : tS) : Nat → Nat → Int32 := S.2.2.1
abbrev sQ (S : tS) : Nat → Nat → Int32 := S.2.2.2.1
abbrev sF (S : tS) : Nat → Int32 := S.2.2.2.2.1
abbrev sM (S : tS) : Nat → Int32 := S.2.2.2.2.2
abbrev setH (S : tS) (x : Nat → Nat → Int32) : tS := (sN S, sP S, x, sQ S, sF S, sM S)
abbrev setQ (S : tS) (x : Nat → Nat → Int32) : tS := (sN S, sP S, sH S, x, sF S, sM S)
abbrev setF (S : tS) (x : Nat → Int32) : tS := (sN S, sP S, sH S, sQ S, x, sM S)
abbrev setM (S : tS) (x : Nat → Int32) : tS := (sN S, sP S, sH S, sQ S, sF S, x)
def cH (f : Nat → Int32) : va_E := .inr (0, [.int (f 0), .int (f 1), .int (f 2), .int (f 3), .int (f 4), .int (f 5), .int (f 6), .int (f 7), .int (f 8), .int (f 9)])
def cP (f : Nat → Int32) : va_E := .inr (1, [.int (f 0), .int (f 1), .int (f 2), .int (f 3), .int (f 4), .int (f 5)])
def cV (ad : Nat → Nat) (B : Nat) (S : tS) : va_E := .inr (2, [.ref (ad 1), .ref (ad (B + 1)), .ref (ad (B + 2)), .int (nI (sN S)), .int (nI (sP S)), .int (sM S 0), .int (sM S 1), .int (sM S 2), .int (sM S 3), .int (sM S 4)])
def cHA (cy : Nat → ClassId) (ad : Nat → Nat) (B : Nat) : va_E := .inl (cy 2, 10, .inr (.inr (.inr (.inr (fun i => if i < 10 then some (ad (B + 3 + i)) else none)))))
def cPA (cy : Nat → ClassId) (ad : Nat → Nat) (B : Nat) : va_E := .inl (cy 3, 12, .inr (.inr (.inr (.inr (fun i => if i < 12 then some (ad (B + 13 + i)) else none)))))
/-- a village at the place B over the world g0: the houses and pipes that there are; the rest stays g0's -/
def gV (cy : Nat → ClassId) (ad : Nat → Nat) (B : Nat) (S : tS) (g0 : Nat → va_E) : Nat → va_E := fun k =>
  if k = B then cV ad B S else if k = B + 1 then cHA cy ad B else if k = B + 2 then cPA cy ad B else if B + 3 ≤ k ∧ k < B + 3 + sN S then cH (sH S (k - (B + 3))) else if B + 13 ≤ k ∧ k < B + 13 + sP S then cP (sQ S (k - (B + 13))) else g0 k
section GV
variable {cy : Nat → ClassId} {ad : Nat → Nat} {B n : Nat} {S T : tS} {g0 : Nat → va_E}
theorem gV_v (h : B + 25 ≤ n) : vAt n (gV cy ad B S g0) B (cV ad B S) := ⟨by omega, by unfold gV; rw [if_pos rfl]⟩
theorem gV_ha (h : B + 25 ≤ n) : vAt n (gV cy ad B S g0) (B + 1) (cHA cy ad B) := ⟨by omega, by unfold gV; rw [if_neg (by omega), if_pos rfl]⟩
theorem gV_pa (h : B + 25 ≤ n) : vAt n (gV cy ad B S g0) (B + 2) (cPA cy ad B) := ⟨by omega, by unfold gV; rw [if_neg (by omega), if_neg (by omega), if_pos rfl]⟩
theorem gV_h (h : B + 25 ≤ n) (hN : sN S ≤ 10) {i : Nat} (hi : i < sN S) : vAt n (gV cy ad B S g0) (B + 3 + i) (cH (sH S i)) := by
  refine ⟨by omega, ?_⟩
  unfold gV
  rw [if_neg (by omega), if_neg (by omega), if_neg (by omega), if_pos ⟨by omega, by omega⟩, show B + 3 + i - (B + 3) = i by omega]
theorem gV_p (h : B + 25 ≤ n) (hN : sN S ≤ 10) (hP : sP S ≤ 12) {i : Nat} (hi : i < sP S) : vAt n (gV cy ad B S g0) (B + 13 + i) (cP (sQ S i)) := by
  refine ⟨by omega, ?_⟩
  unfold gV
  rw [if_neg (by omega), if_neg (by omega), if_neg (by omega), if_neg (by omega), if_pos ⟨by omega, by omega⟩, show B + 13 + i - (B + 13) = i by omega]
/-- the cells that are g0's -/
def gOut (B N P k : Nat) : Prop := k ≠ B ∧ k ≠ B + 1 ∧ k ≠ B + 2 ∧ ¬ (B + 3 ≤ k ∧ k < B + 3 + N) ∧ ¬ (B + 13 ≤ k ∧ k < B + 13 + P)
theorem gV_out {k : Nat} (h : gOut B (sN S) (sP S) k) : gV cy ad B S g0 k = g0 k := by
  unfold gV
  rw [if_neg h.1, if_neg h.2.1, if_neg h.2.2.1, if_neg h.2.2.2.1, if_neg h.2.2.2.2]
theorem gV_o {k : Nat} {e : va_E} (h : gOut B (sN S) (sP S) k) (hk : vAt n g0 k e) : vAt n (gV cy ad B S g0) k e := ⟨hk.1, (gV_out h).trans hk.2⟩
theorem gV_upV (hN : sN T = sN S) (hP : sP T = sP S) (hH : sH T = sH S) (hQ : sQ T = sQ S) : va_up (gV cy ad B S g0) B (cV ad B T) = gV cy ad B T g0 := by
  funext k
  by_cases hk : k = B
  · subst hk; rw [va_up_self]; unfold gV; rw [if_pos rfl]
  · rw [va_up_ne _ _ hk]
    unfold gV
    simp only [if_neg hk, hH, hQ, hN, hP]
theorem gV_upH {i : Nat} {f : Nat → Int32} (hN : sN S ≤ 10) (hi : i < sN S) : va_up (gV cy ad B S g0) (B + 3 + i) (cH f) = gV cy ad B (setH S (va_up (sH S) i f)) g0 := by
  funext k
  by_cases hk : k = B + 3 + i
  · subst hk
    rw [va_up_self]
    unfold gV
    rw [if_neg (by omega), if_neg (by omega), if_neg (by omega), if_pos ⟨by omega, show _ < B + 3 + sN S by omega⟩, show B + 3 + i - (B + 3) = i by omega]
    show cH f = cH (va_up (sH S) i f i)
    rw [va_up_self]
  · rw [va_up_ne _ _ hk]
    unfold gV
    by_cases h2 : k = B
    · simp only [if_pos h2]; rfl
    by_cases h3 : k = B + 1
    · simp only [if_neg h2, if_pos h3]
    by_cases h4 : k = B + 2
    · simp only [if_neg h2, if_neg h3, if_pos h4]
    by_cases h5 : B + 3 ≤ k ∧ k < B + 3 + sN S
    · simp only [if_neg h2, if_neg h3, if_neg h4]
      rw [if_pos h5, if_pos (show B + 3 ≤ k ∧ k < B + 3 + sN (setH S (va_up (sH S) i f)) from h5)]
      show _ = cH (va_up (sH S) i f (k - (B + 3)))
      rw [va_up_ne _ _ (by omega)]
    · simp only [if_neg h2, if_neg h3, if_neg h4]
      rw [if_neg h5, if_neg (show ¬ (B + 3 ≤ k ∧ k < B + 3 + sN (setH S (va_up (sH S) i f))) from h5)]
theorem gV_upP {i : Nat} {f : Nat → Int32} (hN : sN S ≤ 10) (hP : sP S ≤ 12) (hi : i < sP S) : va_up (gV cy ad B S g0) (B + 13 + i) (cP f) = gV cy ad B (setQ S (va_up (sQ S) i f)) g0 := by
  funext k
  by_cases hk : k = B + 13 + i
  · subst hk
    rw [va_up_self]
    unfold gV
    rw [if_neg (by omega), if_neg (by omega), if_neg (by omega), if_neg (show ¬ (B + 3 ≤ B + 13 + i ∧ B + 13 + i < B + 3 + sN S) by omega), if_pos ⟨by omega, show _ < B + 13 + sP S by omega⟩, show B + 13 + i - (B + 13) = i by omega]
    show cP f = cP (va_up (sQ S) i f i)
    rw [va_up_self]
  · rw [va_up_ne _ _ hk]
    unfold gV
    by_cases h2 : k = B
    · simp only [if_pos h2]; rfl
    by_cases h3 : k = B + 1
    · simp only [if_neg h2, if_pos h3]
    by_cases h4 : k = B + 2
    · simp only [if_neg h2, if_neg h3, if_pos h4]
    by_cases h5 : B + 3 ≤ k ∧ k < B + 3 + sN S
    · simp only [if_neg h2, if_neg h3, if_neg h4]
      rw [if_pos h5, if_pos (show B + 3 ≤ k ∧ k < B + 3 + sN (setQ S (va_up (sQ S) i f)) from h5)]
    by_cases h6 : B + 13 ≤ k ∧ k < B + 13 + sP S
    · simp only [if_neg h2, if_neg h3, if_neg h4]
      rw [if_neg h5, if_neg (show ¬ (B + 3 ≤ k ∧ k < B + 3 + sN (setQ S (va_up (sQ S) i f))) from h5), if_pos h6, if_pos (show B + 13 ≤ k ∧ k < B + 13 + sP (setQ S (va_up (sQ S) i f)) from h6)]
      show _ = cP (va_up (sQ S) i f (k - (B + 13)))
      rw [va_up_ne _ _ (by omega)]
    · simp only [if_neg h2, if_neg h3, if_neg h4]
      rw [if_neg h5, if_neg (show ¬ (B + 3 ≤ k ∧ k < B + 3 + sN (setQ S (va_up (sQ S) i f))) from h5), if_neg h6, if_neg (show ¬ (B + 13 ≤ k ∧ k < B + 13 + sP (setQ S (va_up (sQ S) i f))) from h6)]
theorem gV_upo {k : Nat} {e : va_E} (h : gOut B (sN S) (sP S) k) : va_up (gV cy ad B S g0) k e = gV cy ad B S (va_up g0 k e) := by
  funext j
  by_cases hj : j = k
  · subst hj; rw [va_up_self, gV_out h, va_up_self]
  · rw [va_up_ne _ _ hj]
    unfold gV
    simp only [va_up_ne _ _ hj]
theorem gV_comm {C : Nat} (h : B + 25 ≤ C) (hN : sN S ≤ 10) (hP : sP S ≤ 12) (hN2 : sN T ≤ 10) (hP2 : sP T ≤ 12) : gV cy ad B S (gV cy ad C T g0) = gV cy ad C T (gV cy ad B S g0) := by
  funext k
  by_cases ho : gOut C (sN T) (sP T) k
  · rw [gV_out ho]
    unfold gV
    rw [if_neg ho.1, if_neg ho.2.1, if_neg ho.2.2.1, if_neg ho.2.2.2.1, if_neg ho.2.2.2.2]
  · have hb : gOut B (sN S) (sP S) k := by
      unfold gOut at ho ⊢
      omega
    rw [gV_out hb]
    unfold gV
    have e : (if k = B then cV ad B S else if k = B + 1 then cHA cy ad B else if k = B + 2 then cPA cy ad B else if B + 3 ≤ k ∧ k < B + 3 + sN S then cH (sH S (k - (B + 3))) else if B + 13 ≤ k ∧ k < B + 13 + sP S then cP (sQ S (k - (B + 13))) else g0 k) = g0 k := by
      rw [if_neg hb.1, if_neg hb.2.1, if_neg hb.2.2.1, if_neg hb.2.2.2.1, if_neg hb.2.2.2.2]
    rw [e]
end GV

section ALD
variable {p : Program} {l : Launch} {e : Env} {R : Room} {s : State} {m : MethodId} {args : Array Value} {below : List Frame} {meth : Method} {c : Code} {cells slots : Nat} {Q : State → Prop}
variable {cc : ByteArray} {own : String} {nL z0 n pc : Nat} {D : va_G} {cy : Nat → ClassId} {ad : Nat → Nat} {g : Nat → va_E} {L : List (Option Value)} {st : List Value}
theorem v_aaldH (X : vCx p s m args c cc own nL z0 D cy) {B j : Nat} {x : Int32} (d : decode cc pc = .ok (.aaload, 1)) (hg : vAt n g (B + 1) (cHA cy ad B)) (hx : x = nI j) (hj : j < 10) (kk : vV p l e R s m args below meth c nL z0 D cells slots Q n ad g (pc + 1) L (.ref (ad (B + 3 + j)) :: st)) : vV p l e R s m args below meth c nL z0 D cells slots Q n ad g pc L (.int x :: .ref (ad (B + 1)) :: st) :=
  v_aald (t0 := 2) X d hg rfl hx hj (by decide) (if_pos hj) kk
theorem v_aaldP (X : vCx p s m args c cc own nL z0 D cy) {B j : Nat} {x : Int32} (d : decode cc pc = .ok (.aaload, 1)) (hg : vAt n g (B + 2) (cPA cy ad B)) (hx : x = nI j) (hj : j < 12) (kk : vV p l e R s m args below meth c nL z0 D cells slots Q n ad g (pc + 1) L (.ref (ad (B + 13 + j)) :: st)) : vV p l e R s m args below meth c nL z0 D cells slots Q n ad g pc L (.int x :: .ref (ad (B + 2)) :: st) :=
  v_aald (t0 := 3) X d hg rfl hx hj (by decide) (if_pos hj) kk
end ALD
end
section
/-! loops -/
def itr {S : Type} (f : Nat → S → S) : Nat → Nat → S → S
  | _, 0, s => s
  | i, k + 1, s => itr f (i + 1) k (f i s)
theorem loop_up {S : Type} (f : Nat → S → S) (P : Nat → S → Prop) (N : Nat) (hs : ∀ i s, i < N → P (i + 1) (f i s) → P i s) : ∀ (k i : Nat) (s : S), i + k = N → P N (itr f i k s) → P i s
  | 0, i, s, h, hp => by
    have : i = N := by omega
    subst this
    exact hp
  | k + 1, i, s, h, hp => hs i s (by omega) (loop_up f P N hs k (i + 1) (f i s) (by omega) hp)
/-- with what stays true on the way -/
theorem loop_inv {S : Type} (f : Nat → S → S) (I : Nat → S → Prop) (P : Nat → S → Prop) (N : Nat) (hI : ∀ i s, i < N → I i s → I (i + 1) (f i s)) (hs : ∀ i s, i < N → I i s → P (i + 1) (f i s) → P i s) : ∀ (k i : Nat) (s : S), i + k = N → I i s → (I N (itr f i k s) → P N (itr f i k s)) → P i s
  | 0, i, s, h, hi, hp => by
    have : i = N := by omega
    subst this
    exact hp hi
  | k + 1, i, s, h, hi, hp => hs i s (by omega) hi (loop_inv f I P N hI hs k (i + 1) (f i s) (by omega) (hI i s (by omega) hi) hp)
theorem itr_inv {S : Type} (f : Nat → S → S) (I : Nat → S → Prop) (N : Nat) (hI : ∀ i s, i < N → I i s → I (i + 1) (f i s)) : ∀ (k i : Nat) (s : S), i + k = N → I i s → I N (itr f i k s)
  | 0, i, s, h, hi => by
    have : i = N := by omega
    subst this
    exact hi
  | k + 1, i, s, h, hi => itr_inv f I N hI k (i + 1) (f i s) (by omega) (hI i s (by omega) hi)
theorem itr_congr {S : Type} {f f' : Nat → S → S} (I : Nat → S → Prop) (N : Nat) (hI : ∀ i s, i < N → I i s → I (i + 1) (f i s)) (hf : ∀ i s, i < N → I i s → f i s = f' i s) : ∀ (k i : Nat) (s : S), i + k = N → I i s → itr f i k s = itr f' i k s
  | 0, i, s, h, hi => rfl
  | k + 1, i, s, h, hi => by
    show itr f (i + 1) k (f i s) = itr f' (i + 1) k (f' i s)
    rw [← hf i s (by omega) hi]
    exact itr_congr I N hI hf k (i + 1) (f i s) (by omega) (hI i s (by omega) hi)
theorem itr_last {S : Type} (f : Nat → S → S) : ∀ (k i : Nat) (s : S), itr f i (k + 1) s = f (i + k) (itr f i k s)
  | 0, i, s => rfl
  | k + 1, i, s => by
    show itr f (i + 1) (k + 1) (f i s) = f (i + (k + 1)) (itr f (i + 1) k (f i s))
    rw [itr_last f k (i + 1) (f i s), show i + 1 + k = i + (k + 1) by omega]
/-! small numbers -/
theorem nI_inc (i : Nat) : nI i + Int32.ofInt 1 = nI (i + 1) := nI_1 i
theorem nIge {i N : Nat} (h : i < N) (hN : N < 2 ^ 31) : ¬ nI N ≤ nI i := nI_ge h hN
theorem rem28 {d : Nat} (h : d < 2 ^ 31) : nI d - nI d / 28 * 28 = nI (d % 28) := pk_rem (d := 28) h (by decide) (by decide)
theorem xor28 {d : Nat} (h : d < 2 ^ 31) : (0 : Int32) ≤ nI d ^^^ 28 := by
  have e : nI d ^^^ 28 = nI (d ^^^ 28) := by
    apply Int32.toBitVec_inj.mp
    apply BitVec.eq_of_toNat_eq
    show (BitVec.ofNat 32 d ^^^ BitVec.ofNat 32 28).toNat = (BitVec.ofNat 32 (d ^^^ 28)).toNat
    have h2 : d ^^^ 28 < 2 ^ 31 := Nat.xor_lt_two_pow h (by decide)
    rw [BitVec.toNat_xor, BitVec.toNat_ofNat, BitVec.toNat_ofNat, BitVec.toNat_ofNat, Nat.mod_eq_of_lt (by omega), Nat.mod_eq_of_lt (by decide), Nat.mod_eq_of_lt (by omega)]
  rw [e]
  exact nI_pos' (Nat.xor_lt_two_pow h (by decide))
def isB (x : Int32) : Prop := x = 0 ∨ x = 1
theorem isB_n {x : Int32} (h : isB x) : narrow .boolean (.int x) = .int x := by
  rcases h with h | h <;> subst h <;> rfl
theorem isB_f {x : Int32} (h : isB x) : fits .boolean (.int x) = true := by
  rcases h with h | h <;> subst h <;> decide
theorem isB_if {c : Prop} [Decidable c] : isB (if c then 1 else 0) := by
  unfold isB
  split
  · exact Or.inr rfl
  · exact Or.inl rfl
/-! a method of the JDK's, walked like one's own -/
theorem ct_ofF {l : Launch} {y : MethodName} {bytes : ByteArray} {maxL mc ms z0 n : Nat} {ret : Option FieldType} {rm : Room} {D : va_G} {cy : Nat → ClassId} {ad : Nat → Nat} {g : Nat → va_E} {P : CtP} {av : List Value} (hy : plainFor y = true) (k : Nat) (L : List (Option Value)) (hlen : (lg_sl av).length ≤ maxL) (hL : argsL av ++ List.replicate k none = L)
    (body : ∀ (p : Program) (e : Env) (s : State) (m : MethodId) (below : List Frame) (meth : Method) (c : Code), vCx p s m av.toArray c bytes y.cls maxL z0 D cy → meth.sig.returnType = ret → meth.locks = false → meth.name = y.name →
      vV p l e rm s m av.toArray below meth c maxL z0 D 0 0 (MQ below (QcR z0 D P) av.toArray s mc ms (fun q => z0 ≤ q)) n ad g 0 L []) : CtG l y bytes maxL ret rm z0 D cy n ad g av P mc ms := by
  unfold CtG Met
  refine MetFree.of_bodySF (code := bytes) (maxLocals := maxL) (ret := ret) hy ?_ ?_
  · intro args s m h hn
    obtain ⟨meth, c, h1, h2, h3, h4, h5, h6, -, -⟩ := Cond.code_spec hn (atoms_spec (ws := .code y bytes maxL ret :: UW) h _ List.mem_cons_self)
    exact ⟨meth, c, h1, h2, h3, h4, h5, h6⟩
  · intro p e s m args below meth c s₁ B hml hv _
    obtain ⟨rfl, hz, hP, hD, hK, hF⟩ := hv
    have hh0 : s₁.heap = s.heap := by rw [B.state]; rfl
    have hts := atoms_spec (ws := .code y bytes maxL ret :: UW) B.pre
    have hown : s.vm.findClass y.cls = some m.cls := findClass_of_methodNamed B.named
    have hl := hasL_entry hlen hL
    have hw : W p l e rm s m av.toArray below meth c s.heap [] 0 0 (MQ below (QcR z0 D P) av.toArray s mc ms (fun q => z0 ≤ q)) (entryFrame m av.toArray maxL) := by
      rw [lg_entry_eq]
      exact body p e s m below meth c ⟨B.exec, B.bytes, hml, hown, fun w h => hts w (List.mem_cons_of_mem _ h), hK, hz, hF⟩ B.returns B.notSynchronized (name_of_methodNamed B.named B.method).1 s.heap [] _ va_S.rf hP hD hl
    obtain ⟨t, a1, o, b1, b2, b3⟩ := hw s₁ hh0 (Stand.of_body B)
    exact ⟨t, o, a1, b1, b2, ⟨b3.1, b3.2⟩⟩
end
