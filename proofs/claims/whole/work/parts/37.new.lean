
/-! ===== the pool grows ===== -/
def gw (L : List Nat) (f : Nat → va_E) (L' : List Nat) (f' : Nat → va_E) : Prop := ∀ a, a ∈ L → a ∈ L' ∧ f' a = f a
theorem gw.at {L L' : List Nat} {f f' : Nat → va_E} (h : gw L f L' f') {a : Nat} {x : va_E} (ha : px_at L f a x) : px_at L' f' a x := ⟨(h a ha.1).1, (h a ha.1).2.trans ha.2⟩
theorem gw.tr {L L' L2 : List Nat} {f f' f2 : Nat → va_E} (h : gw L f L' f') (h2 : gw L' f' L2 f2) : gw L f L2 f2 := fun a ha => ⟨(h2 a (h a ha).1).1, (h2 a (h a ha).1).2.trans (h a ha).2⟩
theorem gw.mem {L L' : List Nat} {f f' : Nat → va_E} (h : gw L f L' f') {a : Nat} (ha : a ∉ L') : a ∉ L := fun q => ha (h a q).1
theorem gw.push {L : List Nat} {f : Nat → va_E} {q : Nat} {e : va_E} (h : q ∉ L) : gw L f (L ++ [q]) (va_up f q e) := fun a ha => ⟨List.mem_append_left _ ha, va_up_ne _ _ (fun x => h (x ▸ ha))⟩
theorem va_D_add {A : Nat → Prop} {ws : va_W} {a : Nat} {e : va_E} (hD : va_D A ws) (hn : ∀ (k : Nat) (x : Nat × va_E), ws[k]? = some x → x.1 ≠ a) (hA : A a) : va_D A (ws ++ [(a, e)]) := by
  have one : ∀ {k : Nat} {x : Nat × va_E}, ¬ k < ws.length → (ws ++ [(a, e)])[k]? = some x → k = ws.length ∧ x = (a, e) := fun {k x} hk hx => by
    rw [List.getElem?_append_right (by omega)] at hx
    have h0 : k - ws.length < 1 := (List.getElem?_eq_some_iff.mp hx).1
    rw [show k - ws.length = 0 by omega] at hx
    cases hx
    exact ⟨by omega, rfl⟩
  refine ⟨fun i j x y hi hj hxy => ?_, fun k x hx => ?_⟩
  · by_cases h1 : i < ws.length <;> by_cases h2 : j < ws.length
    · rw [List.getElem?_append_left h1] at hi
      rw [List.getElem?_append_left h2] at hj
      exact hD.1 i j x y hi hj hxy
    · rw [List.getElem?_append_left h1] at hi
      obtain ⟨e1, rfl⟩ := one h2 hj
      exact absurd hxy (hn i x hi)
    · rw [List.getElem?_append_left h2] at hj
      obtain ⟨e1, rfl⟩ := one h1 hi
      exact absurd hxy.symm (hn j y hj)
    · have a1 := (one h1 hi).1
      have a2 := (one h2 hj).1
      omega
  · by_cases h1 : k < ws.length
    · rw [List.getElem?_append_left h1] at hx
      exact hD.2 k x hx
    · obtain ⟨e1, rfl⟩ := one h1 hx
      exact hA
theorem outer_V (c : ClassId) (N h0 : Nat) : ∀ i : Nat, Jvm.Free.Multi.outerC c N h0 i = arrV c N (fun j => va_rf (if j < i then some (h0 + 1 + j) else none))
  | 0 => by
    show ({ cls := c, slots := Array.replicate N .null, vm := .none } : Cell) = _
    rw [arrV_new]
    refine congrArg (arrV c N) (funext fun j => ?_)
    rw [if_neg (Nat.not_lt_zero j)]; rfl
  | i + 1 => by
    show (Jvm.Free.Multi.outerC c N h0 i).setSlot i (.ref (h0 + 1 + i)) = _
    rw [outer_V c N h0 i, arrV_store]
    refine congrArg (arrV c N) (funext fun j => ?_)
    by_cases e : j = i
    · subst e
      simp [updV, va_rf]
    · by_cases h : j < i
      · simp [updV, e, h, Nat.lt_succ_of_lt h]
      · simp [updV, e, h, show ¬ j < i + 1 by omega]
section PXN
variable {p : Program} {l : Launch} {e : Env} {R : Room} {s : State} {m : MethodId} {args : Array Value} {below : List Frame} {meth : Method} {c : Code} {cc : ByteArray} {own : String} {ws : List Cond} {nL : Nat} {ret : Option FieldType} {E : px_E} {A : Nat → Prop} {H0 : Heap} {L : List Nat} {f : Nat → va_E} {n k : Nat} {Q : State → Prop} {pc : Nat} {lv : List (Nat × Value)} {st : List Value}
theorem px_objI (hC : px_C p s m args meth c cc own ws nL ret E A H0) {idx a : Nat} (h1 : Cond.methodLink own idx objectInit ∈ ws) (h2 : Cond.instanceMethod objectInit ∈ ws) (h3 : Cond.code objectInit ⟨#[0xb1]⟩ 1 none ∈ ws) (hst : (st.map fun v => v.category).sum ≤ 8) (hR : 1 ≤ R.frames ∧ 20 ≤ R.locals) (hdg : decode cc pc = .ok (.invokespecial idx, 3)) (kk : px p l e R s m args below meth c nL E A H0 L f n k Q (pc + 3) lv st) : px p l e R s m args below meth c nL E A H0 L f n k Q pc lv (.ref a :: st) := fun H locs ls hH hl => W.objInit hC.1 hC.2.1 hC.2.2.2.1 (hC.2.2.2.2.1 _ h1) (hC.2.2.2.2.1 _ h2) (hC.2.2.2.2.1 _ h3) rfl (by rw [hC.2.2.1]; exact hl.1) rfl hdg hR.1 (by have := lv_room (m := m) (pc := pc) (ls := ls) (rest := .ref a :: st) hst; omega) (kk H locs ls hH hl)
theorem px_newI (hC : px_C p s m args meth c cc own ws nL ret E A H0) {nn : Nat} (hw : Cond.arrayClass .int ∈ ws) (hnn : nn * 4 ≤ 536870912) (hc : n + 1 ≤ R.cells) (hs : k + nn ≤ R.slots) (hdg : decode cc pc = .ok (.newarray .int, 2)) (kk : ∀ (q : Nat) (L' : List Nat) (f' : Nat → va_E), q ∉ L → gw L f L' f' → px_at L' f' q (aI E nn (fun _ => nI 0)) → px p l e R s m args below meth c nL E A H0 L' f' (n + 1) (k + nn) Q (pc + 2) lv (.ref q :: st)) : px p l e R s m args below meth c nL E A H0 L f n k Q pc lv (.int (nI nn) :: st) := by
  intro H locs ls hH hl
  obtain ⟨hP, hD, hS⟩ := id hH
  have hK := hC.2.2.2.2.2.2.2.1.1
  have h31 : nn < 2 ^ 31 := by omega
  refine va_newa (atype := .int) (ty := .int) (a0 := (nn, .inl (fun _ => nI 0))) hC.1 hC.2.1 (hC.2.2.2.2.1 _ hw) rfl hK hP hD hS hC.2.2.2.2.2.2.2.2 (fun cA => rfl) (nI_pos h31) (nI_clamp h31) hnn hc hs hdg (fun q cA H1 hK1 hP1 hD1 hS1 => ?_)
  have e0 : cA = E.2 0 := Option.some.inj (((hK1.2 5 (cA, .int) rfl).2).symm.trans (hK.2 0 (E.2 0, .int) rfl).2)
  subst e0
  have hq : q ∉ L := va_pl_fresh2 (X := []) hD1
  rw [va_pl_push hq] at hP1 hD1
  exact kk q _ _ hq (gw.push hq) ⟨List.mem_append_right _ (List.mem_singleton.mpr rfl), va_up_self _ _ _⟩ H1 _ ls ⟨hP1, hD1, hS1⟩ hl
theorem px_newJ (hC : px_C p s m args meth c cc own ws nL ret E A H0) {nn : Nat} (hw : Cond.arrayClass .long ∈ ws) (hnn : nn * 8 ≤ 536870912) (hc : n + 1 ≤ R.cells) (hs : k + nn ≤ R.slots) (hdg : decode cc pc = .ok (.newarray .long, 2)) (kk : ∀ (q : Nat) (L' : List Nat) (f' : Nat → va_E), q ∉ L → gw L f L' f' → px_at L' f' q (aJ E nn (fun _ => lN 0)) → px p l e R s m args below meth c nL E A H0 L' f' (n + 1) (k + nn) Q (pc + 2) lv (.ref q :: st)) : px p l e R s m args below meth c nL E A H0 L f n k Q pc lv (.int (nI nn) :: st) := by
  intro H locs ls hH hl
  obtain ⟨hP, hD, hS⟩ := id hH
  have hK := hC.2.2.2.2.2.2.2.1.1
  have h31 : nn < 2 ^ 31 := by omega
  refine va_newa (atype := .long) (ty := .long) (a0 := (nn, .inr (.inl (fun _ => lN 0)))) hC.1 hC.2.1 (hC.2.2.2.2.1 _ hw) rfl hK hP hD hS hC.2.2.2.2.2.2.2.2 (fun cA => rfl) (nI_pos h31) (nI_clamp h31) hnn hc hs hdg (fun q cA H1 hK1 hP1 hD1 hS1 => ?_)
  have e0 : cA = E.2 1 := Option.some.inj (((hK1.2 5 (cA, .long) rfl).2).symm.trans (hK.2 1 (E.2 1, .long) rfl).2)
  subst e0
  have hq : q ∉ L := va_pl_fresh2 (X := []) hD1
  rw [va_pl_push hq] at hP1 hD1
  exact kk q _ _ hq (gw.push hq) ⟨List.mem_append_right _ (List.mem_singleton.mpr rfl), va_up_self _ _ _⟩ H1 _ ls ⟨hP1, hD1, hS1⟩ hl
theorem px_newG (hC : px_C p s m args meth c cc own ws nL ret E A H0) {nn index : Nat} (hw : Cond.classLink own index "RowReductionModel$Great" ∈ ws) (hnn : nn * 4 ≤ 536870912) (hc : n + 1 ≤ R.cells) (hs : k + nn ≤ R.slots) (hdg : decode cc pc = .ok (.anewarray index, 3)) (kk : ∀ (q : Nat) (L' : List Nat) (f' : Nat → va_E), q ∉ L → gw L f L' f' → px_at L' f' q (aG E nn (fun _ => none)) → px p l e R s m args below meth c nL E A H0 L' f' (n + 1) (k + nn) Q (pc + 3) lv (.ref q :: st)) : px p l e R s m args below meth c nL E A H0 L f n k Q pc lv (.int (nI nn) :: st) := by
  intro H locs ls hH hl
  obtain ⟨hP, hD, hS⟩ := id hH
  have hK := hC.2.2.2.2.2.2.2.1.1
  have h31 : nn < 2 ^ 31 := by omega
  refine va_newq hC.1 hC.2.1 hC.2.2.2.1 (hC.2.2.2.2.1 _ hw) hC.2.2.2.2.2.2.2.1.2.2.1.1 hK hP hD hS hC.2.2.2.2.2.2.2.2 (nI_pos h31) (nI_clamp h31) hnn hc hs hdg (fun q cA H1 hK1 hP1 hD1 hS1 => ?_)
  have e0 : cA = E.2 2 := by
    obtain ⟨k1, c1, -, -, -, h1⟩ := (hK1.2 5 (cA, .object "RowReductionModel$Great") rfl).2
    obtain ⟨k2, c2, -, -, -, h2⟩ := (hK.2 2 (E.2 2, .object "RowReductionModel$Great") rfl).2
    exact Option.some.inj (h1.symm.trans h2)
  subst e0
  have hq : q ∉ L := va_pl_fresh2 (X := []) hD1
  rw [va_pl_push hq] at hP1 hD1
  exact kk q _ _ hq (gw.push hq) ⟨List.mem_append_right _ (List.mem_singleton.mpr rfl), va_up_self _ _ _⟩ H1 _ ls ⟨hP1, hD1, hS1⟩ hl
theorem px_newO (hC : px_C p s m args meth c cc own ws nL ret E A H0) {ci N index : Nat} {C : String} {T : u_T} {fs : List Value} (hci : vwCl[ci]? = some (C, T, N)) (hin : ∀ w ∈ u_ws C T N, w ∈ ws) (ty : Nat → FieldType) (hty : ∀ k, k < N → parseFieldDescriptor (T k).2.2.1 = some (ty k)) (hw : Cond.classLink own index C ∈ ws) (hw2 : Cond.instantiable C N ∈ ws) (hw3 : Cond.initialized C ∈ ws) (hfs : ∀ j, j < N → defaultValue (ty j) = vp_V fs j) (hc : n + 1 ≤ R.cells) (hs : k + N ≤ R.slots) (hdg : decode cc pc = .ok (.new index, 3)) (kk : ∀ (q : Nat) (L' : List Nat) (f' : Nat → va_E), q ∉ L → gw L f L' f' → px_at L' f' q (.inr (ci, fs)) → px p l e R s m args below meth c nL E A H0 L' f' (n + 1) (k + N) Q (pc + 3) lv (.ref q :: st)) : px p l e R s m args below meth c nL E A H0 L f n k Q pc lv st := by
  intro H locs ls hH hl
  obtain ⟨hP, hD, hS⟩ := id hH
  have hK := hC.2.2.2.2.2.2.2.1.1
  refine va_new hC.1 hC.2.1 hC.2.2.2.2.1 hin ty hty hC.2.2.2.1 (hC.2.2.2.2.1 _ hw) (hC.2.2.2.2.1 _ hw2) (hC.2.2.2.2.1 _ hw3) hK hP hD hS hC.2.2.2.2.2.2.2.2 hci hfs hc hs hdg (fun q H1 hP1 hD1 hS1 => ?_)
  have hq : q ∉ L := va_pl_fresh2 (X := []) hD1
  rw [va_pl_push hq] at hP1 hD1
  exact kk q _ _ hq (gw.push hq) ⟨List.mem_append_right _ (List.mem_singleton.mpr rfl), va_up_self _ _ _⟩ H1 _ ls ⟨hP1, hD1, hS1⟩ hl
/-- new T[N][M] for T int or long -/
theorem px_mna (hC : px_C p s m args meth c cc own ws nL ret E A H0) {N M index t0 t1 : Nat} {ty : FieldType} {z : vp_A} (hw : Cond.classLink own index ("[" ++ (FieldType.array ty).toString) ∈ ws) (hover : (Cond.arrayOver (.array ty)).before args s = true) (hw2 : Cond.arrayClass ty ∈ ws) (ht0 : (px_tys E)[t0]? = some (E.2 t0, ty)) (ht1 : (px_tys E)[t1]? = some (E.2 t1, .array ty)) (hna : va_RA s (E.2 t0) ty → s.vm.findClass (FieldType.array ty).toString = some (E.2 t0)) (hN : N ≤ 1000) (hM : M ≤ 1000) (hb : M * componentBytes ty ≤ 536870912) (hdf : fits ty (defaultValue ty) = true) (hdd : (defaultValue ty).isDefault = true) (hc : n + (1 + N) ≤ R.cells) (hs : k + (N + N * M) ≤ R.slots) (hz : ∀ c : ClassId, Jvm.Free.Multi.innerC c M (defaultValue ty) = vp_cell c z) (hdg : decode cc pc = .ok (.multianewarray index 2, 4)) (kk : ∀ (q : Nat) (r : Nat → Nat) (L' : List Nat) (f' : Nat → va_E), q ∉ L → (∀ i, r i ∉ L) → (∀ i j, r i = r j → i = j) → gw L f L' f' → px_at L' f' q (.inl (E.2 t1, N, .inr (.inr (.inr (.inr (fun i => if i < N then some (r i) else none)))))) → (∀ i, i < N → px_at L' f' (r i) (.inl (E.2 t0, z))) → px p l e R s m args below meth c nL E A H0 L' f' (n + 1 + N) (k + N + N * M) Q (pc + 4) lv (.ref q :: st)) : px p l e R s m args below meth c nL E A H0 L f n k Q pc lv (.int (nI M) :: .int (nI N) :: st) := by
  intro H locs ls hH hl
  obtain ⟨hP, hD, hS⟩ := id hH
  have hK := hC.2.2.2.2.2.2.2.1.1
  have hA := hC.2.2.2.2.2.2.2.2
  intro T hT X
  have cN : (nI N).toNatClampNeg = N := nI_clamp (by omega)
  have cM : (nI M).toNatClampNeg = M := nI_clamp (by omega)
  obtain ⟨vm₁, cA, comp, -, fA, fC, -, -, X', step⟩ := X.multianewarray2F hC.1 hC.2.2.2.1 (hC.2.2.2.2.1 _ hw) hover (hC.2.2.2.2.1 _ hw2) (g := F0 m pc ls (.int (nI M) :: .int (nI N) :: st)) rfl (by rw [hC.2.1]; exact hdg) rfl (nI_pos (by omega)) (nI_pos (by omega)) (by rw [cN]; omega) (by rw [cM]; exact hb) (by rw [cM]; omega) hdf hdd (by rw [cN]; exact hc) (by rw [cN, cM]; exact hs)
  rw [cN, cM] at X' step
  have e1 : cA = E.2 t1 := Option.some.inj (fA.symm.trans (hK.2 t1 _ ht1).2)
  have e0 : comp = E.2 t0 := Option.some.inj (fC.symm.trans (hna (hK.2 t0 _ ht0).2))
  subst e1
  subst e0
  generalize hF : Jvm.Free.Multi.fill (T.setVm vm₁) (E.2 t1) (E.2 t0) N M (defaultValue ty) N = F at X' step
  have hTh : (T.setVm vm₁).heap = H := hT
  obtain ⟨f1, f2, -, -⟩ := Jvm.Free.Multi.fill_facts (T.setVm vm₁) (E.2 t1) (E.2 t0) N M (defaultValue ty) N
  rw [hF, hTh] at f1 f2
  have hold : ∀ x : Nat, x < H.size → F.heap[x]? = H[x]? := fun x hx => by
    have := Jvm.Free.Multi.fill_old (T.setVm vm₁) (E.2 t1) (E.2 t0) N M (defaultValue ty) (a := x) (by rw [hTh]; exact hx) N
    rw [hF, hTh] at this
    exact this
  have hrow : ∀ j : Nat, j < N → F.heap[H.size + 1 + j]? = some (vp_cell (E.2 t0) z) := fun j hj => by
    have := Jvm.Free.Multi.fill_inner (T.setVm vm₁) (E.2 t1) (E.2 t0) N M (defaultValue ty) N j hj
    rw [hF, hTh, hz] at this
    exact this
  have hlt : ∀ a, a ∈ L → a < H.size := fun a ha => va_pl_lt (X := []) hP ha
  have hq : H.size ∉ L := fun h => Nat.lt_irrefl _ (hlt _ h)
  have hr : ∀ i, H.size + 1 + i ∉ L := fun i h => by have := hlt _ h; omega
  -- the outer array, then the rows one by one
  have grow : ∀ i, i ≤ N → ∃ (L' : List Nat) (f' : Nat → va_E), va_P E.1 vwCl (va_pl L' f') F.heap ∧ va_D A (va_pl L' f') ∧ (∀ a, a ∈ L' → a < H.size + 1 + i) ∧ gw L f L' f' ∧ px_at L' f' H.size (.inl (E.2 t1, N, .inr (.inr (.inr (.inr (fun i => if i < N then some (H.size + 1 + i) else none)))))) ∧ ∀ j, j < i → px_at L' f' (H.size + 1 + j) (.inl (E.2 t0, z)) := by
    intro i
    induction i with
    | zero =>
      intro _
      refine ⟨L ++ [H.size], va_up f H.size (.inl (E.2 t1, N, .inr (.inr (.inr (.inr (fun i => if i < N then some (H.size + 1 + i) else none)))))), ?_, ?_, fun a ha => ?_, gw.push hq, ⟨List.mem_append_right _ (List.mem_singleton.mpr rfl), va_up_self _ _ _⟩, fun j hj => absurd hj (by omega)⟩
      · rw [← va_pl_push hq]
        refine (hP.kept (fun k9 x hx => hold x.1 ((hP k9 x hx).lt))).app (fun k9 x hx => ?_)
        have h0 : k9 < 1 := (List.getElem?_eq_some_iff.mp hx).1
        rw [show k9 = 0 by omega] at hx
        cases hx
        show F.heap[H.size]? = some (vp_cell _ _)
        rw [vp_cell_q, ← outer_V]
        exact f2
      · rw [← va_pl_push hq]
        exact va_D_add hD (fun k9 x hx h => by have := (hP k9 x hx).lt; omega) (hA _ hS.1)
      · rcases List.mem_append.mp ha with h | h
        · have := hlt a h; omega
        · rw [List.mem_singleton.mp h]; omega
    | succ i ih =>
      intro hi
      obtain ⟨L', f', g1, g2, g3, g4, g5, g6⟩ := ih (by omega)
      have hni : H.size + 1 + i ∉ L' := fun h => Nat.lt_irrefl _ (g3 _ h)
      have gp := gw.push (f := f') (e := .inl (E.2 t0, z)) hni
      refine ⟨L' ++ [H.size + 1 + i], va_up f' (H.size + 1 + i) (.inl (E.2 t0, z)), ?_, ?_, fun a ha => ?_, g4.tr gp, gp.at g5, fun j hj => ?_⟩
      · rw [← va_pl_push hni]
        refine g1.app (fun k9 x hx => ?_)
        have h0 : k9 < 1 := (List.getElem?_eq_some_iff.mp hx).1
        rw [show k9 = 0 by omega] at hx
        cases hx
        exact hrow i (by omega)
      · rw [← va_pl_push hni]
        refine va_D_add g2 (fun k9 x hx h => ?_) (hA _ (by have := hS.1; omega))
        have hm := List.mem_of_getElem? hx
        unfold va_pl at hm
        obtain ⟨a, ha, rfl⟩ := List.mem_map.mp hm
        have := g3 a ha
        have h2 : a = H.size + 1 + i := h
        omega
      · rcases List.mem_append.mp ha with h | h
        · have := g3 a h; omega
        · rw [List.mem_singleton.mp h]; omega
      · by_cases q : j = i
        · subst q; exact ⟨List.mem_append_right _ (List.mem_singleton.mpr rfl), va_up_self _ _ _⟩
        · exact gp.at (g6 j (by omega))
  obtain ⟨L', f', g1, g2, g3, g4, g5, g6⟩ := grow N (Nat.le_refl N)
  obtain ⟨t, a1, b1⟩ := kk H.size (fun i => H.size + 1 + i) L' f' hq hr (fun i j h => by have h9 : H.size + 1 + i = H.size + 1 + j := h; omega) g4 g5 g6 F.heap locs ls ⟨g1, g2, by rw [f1]; have := hS.1; omega, fun x h1 h2 => (hold x (Nat.lt_of_lt_of_le h1 hS.1)).trans (hS.2.1 x h1 h2), hS.2.2⟩ hl F rfl X'
  refine ⟨t, step t ?_, b1⟩
  rw [show T.heap.size = H.size from by rw [← hT]]
  exact a1
end PXN
