theorem gx.rf (L : List Nat) (f : Nat → va_E) (g : Nat) : gx L f g L f := fun _ ha => ⟨ha, fun _ => rfl⟩
theorem gx.wr (L : List Nat) (f : Nat → va_E) (g : Nat) (y : va_E) : gx L f g L (va_up f g y) := fun _ ha => ⟨ha, fun hn => va_up_ne _ _ hn⟩
theorem eOK_gx {E : px_E} {L L' : List Nat} {f f' : Nat → va_E} {q cs np od wk o : Nat} {ad0 : Nat → Nat} (h : eOK E L f q cs np od wk ad0) (hx : gx L f o L' f') (ho : ¬ eA q cs np od wk ad0 o) : eOK E L' f' q cs np od wk ad0 := by
  obtain ⟨cr, ad, sz, eb, tw, iv, mw, ww, h1, h2, h3, h4, h5, ⟨r1, h6⟩, ⟨r2, h7⟩, ⟨r3, h8⟩⟩ := h
  have k : ∀ b, eA q cs np od wk ad0 b → b ≠ o := fun b hb z => ho (z ▸ hb)
  refine ⟨cr, ad, sz, eb, tw, iv, mw, ww, hx.at h1 (k _ (Or.inl rfl)), hx.at h2 (k _ (Or.inr (Or.inl rfl))), h3, h4, fun t ht => ?_, ⟨r1, hx.at h6 (k _ (Or.inr (Or.inr (Or.inl rfl))))⟩, ⟨r2, hx.at h7 (k _ (Or.inr (Or.inr (Or.inr (Or.inl rfl)))))⟩, ⟨r3, hx.at h8 (k _ (Or.inr (Or.inr (Or.inr (Or.inr (Or.inl rfl))))))⟩⟩
  obtain ⟨r, hr⟩ := h5 t ht
  obtain ⟨u, hu, e⟩ := h4 t ht
  exact ⟨r, hx.at hr (k _ (Or.inr (Or.inr (Or.inr (Or.inr (Or.inr ⟨u, hu, e⟩))))))⟩
theorem lOK_gx {E : px_E} {L L' : List Nat} {f f' : Nat → va_E} {lt tp bt ot ob o : Nat} (h : lOK E L f lt tp bt ot ob) (hx : gx L f o L' f') (h0 : lt ≠ o) (h1 : tp ≠ o) (h2 : bt ≠ o) (h3 : ot ≠ o) (h4 : ob ≠ o) : lOK E L' f' lt tp bt ot ob := by
  obtain ⟨a1, ⟨nu, de, a2⟩, ⟨r1, a3⟩, ⟨r2, a4⟩, ⟨r3, a5⟩, ⟨r4, a6⟩⟩ := h
  exact ⟨a1, ⟨nu, de, hx.at a2 h0⟩, ⟨r1, hx.at a3 h1⟩, ⟨r2, hx.at a4 h2⟩, ⟨r3, hx.at a5 h3⟩, ⟨r4, hx.at a6 h4⟩⟩
theorem flX0_init_13 : Cond.fieldLink RX0 13 "RowReduction$Elimination" "cells" "[[J" ∈ wsX0_init := by decide +kernel
theorem kkX0_init_X0 : ∀ w ∈ wsX00, w ∈ wsX0_init := fun _ h => List.mem_cons_of_mem _ (List.mem_append_right _ h)
theorem flX0_init_18 : Cond.fieldLink RX0 18 "RowReduction$Elimination" "negatedPivot" "[J" ∈ wsX0_init := by decide +kernel
theorem flX0_init_22 : Cond.fieldLink RX0 22 "RowReduction$Elimination" "oddDivisor" "[J" ∈ wsX0_init := by decide +kernel
theorem flX0_init_25 : Cond.fieldLink RX0 25 "RowReduction$Elimination" "work" "[J" ∈ wsX0_init := by decide +kernel
theorem flX0_init_28 : Cond.fieldLink RX0 28 "RowReduction$Elimination" "size" "I" ∈ wsX0_init := by decide +kernel
theorem flX0_init_32 : Cond.fieldLink RX0 32 "RowReduction$Elimination" "entryBits" "I" ∈ wsX0_init := by decide +kernel
theorem flX0_init_35 : Cond.fieldLink RX0 35 "RowReduction$Elimination" "divisorTwos" "I" ∈ wsX0_init := by decide +kernel
theorem flX0_init_38 : Cond.fieldLink RX0 38 "RowReduction$Elimination" "divisorInverse" "J" ∈ wsX0_init := by decide +kernel
theorem flX0_init_42 : Cond.fieldLink RX0 42 "RowReduction$Elimination" "minorWidth" "I" ∈ wsX0_init := by decide +kernel
theorem flX0_init_45 : Cond.fieldLink RX0 45 "RowReduction$Elimination" "workWidth" "I" ∈ wsX0_init := by decide +kernel
theorem flX3_init_11 : Cond.fieldLink RX3 11 "RowReduction" "system" "[[I" ∈ wsX3_init := by decide +kernel
theorem kkX3_init_X3 : ∀ w ∈ wsX30, w ∈ wsX3_init := fun _ h => List.mem_cons_of_mem _ (List.mem_append_left _ (List.mem_append_left _ (List.mem_append_right _ h)))
theorem flX3_init_14 : Cond.fieldLink RX3 14 "RowReduction" "numerators" "[J" ∈ wsX3_init := by decide +kernel
theorem flX3_init_18 : Cond.fieldLink RX3 18 "RowReduction" "denominators" "[J" ∈ wsX3_init := by decide +kernel
theorem kkX3_init_X0 : ∀ w ∈ wsX00, w ∈ wsX3_init := fun _ h => List.mem_cons_of_mem _ (List.mem_append_left _ (List.mem_append_right _ h))
theorem flX3_init_24 : Cond.fieldLink RX3 24 "RowReduction" "elimination" "LRowReduction$Elimination;" ∈ wsX3_init := by decide +kernel
theorem kkX3_init_X2 : ∀ w ∈ wsX20, w ∈ wsX3_init := fun _ h => List.mem_cons_of_mem _ (List.mem_append_right _ h)
theorem flX3_init_31 : Cond.fieldLink RX3 31 "RowReduction" "lowestTerms" "LRowReduction$LowestTerms;" ∈ wsX3_init := by decide +kernel
theorem flX3_init_35 : Cond.fieldLink RX3 35 "RowReduction" "size" "I" ∈ wsX3_init := by decide +kernel
theorem flX3_init_39 : Cond.fieldLink RX3 39 "RowReduction" "told" "Z" ∈ wsX3_init := by decide +kernel
theorem c_i0 (l : Launch) (E : px_E) (L : List Nat) (f : Nat → va_E) (q : Nat) (hg : px_at L f q (.inr (0, [.null, .null, .null, .null, .int (nI 0), .int (nI 0), .int (nI 0), .long (lN 0), .int (nI 0), .int (nI 0)]))) : px_M l yX0_init wsX0_init (px_rn 1 114 2483 20) E L f [.ref q] (fun v L' f' => v = none ∧ ∃ cs np od wk ad0, gx L f q L' f' ∧ eOK E L' f' q cs np od wk ad0 ∧ ∀ b, eA q cs np od wk ad0 b → b ∈ L' ∧ (b = q ∨ b ∉ L)) := by
  refine px_M.of (cc := cX0_init) (maxL := 1) (ret := none) (lv := [(0, .ref q)]) (by decide) rfl (Nat.le_of_ble_eq_true rfl) rfl ?_
  intro p e s m below meth c A hC hnm
  obtain ⟨Q, hQ⟩ : ∃ Q, Q = MQ below (px_Q E (fun v L' f' => v = none ∧ ∃ cs np od wk ad0, gx L f q L' f' ∧ eOK E L' f' q cs np od wk ad0 ∧ ∀ b, eA q cs np od wk ad0 b → b ∈ L' ∧ (b = q ∨ b ∉ L)) A) [.ref q].toArray s (px_rn 1 114 2483 20).cells (px_rn 1 114 2483 20).slots A := ⟨_, rfl⟩
  rw [← hQ]
  have X : gx L f q L f := gx.rf _ _ _
  refine px_aload_n hC 0 rfl dX0_init_0 ?_
  refine px_objI (st := []) hC (by decide +kernel) (by decide +kernel) (by decide +kernel) (Nat.le_of_ble_eq_true rfl) (by decide) dX0_init_1 ?_
  refine px_aload_n hC 0 rfl dX0_init_4 ?_
  refine px_bipush (v := nI 110) hC (by decide) dX0_init_5 ?_
  refine px_bipush (v := nI 21) hC (by decide) dX0_init_7 ?_
  refine px_mna (ty := .long) (t0 := 1) (t1 := 4) (N := 110) (M := 21) (z := (21, .inr (.inl (fun _ => lN 0)))) (st := [.ref q]) hC (by decide +kernel) hC.2.2.2.2.2.2.2.1.2.2.1.2.2 (by decide +kernel) rfl rfl (fun h => h) (by decide) (by decide) (by decide) (by decide) (by decide) (by first | exact Nat.le_of_ble_eq_true rfl | (dsimp only; omega)) (by first | exact Nat.le_of_ble_eq_true rfl | (dsimp only; omega)) (by intro c0; show ({ cls := c0, slots := Array.replicate 21 (.long 0), vm := .none } : Cell) = _; rw [arrV_new]; rfl) dX0_init_9 (fun cs ad L1 f1 h1 hr1 hj1 w1 a_cs a_ad => ?_)
  have d_this_cs : q ≠ cs := fun z => h1 (z ▸ hg.1)
  have n_cs : cs ∉ L := X.mem h1
  have n_ad : ∀ i, ad i ∉ L := fun i => X.mem (hr1 i)
  have hg := w1.at hg
  have X := X.grow w1
  refine px_putF (C := RX0) (T := TX0) (N := 10) (fs' := [.ref cs, .null, .null, .null, .int (nI 0), .int (nI 0), .int (nI 0), .long (lN 0), .int (nI 0), .int (nI 0)]) hC hg rfl kkX0_init_X0 0 (by decide) tyX0 tyX0_ok nmX0 flX0_init_13 rfl hnm rfl rfl rfl (Nat.le_of_ble_eq_true rfl) rfl dX0_init_13 ?_
  have a_cs := a_cs.up (y := .inr (0, [.ref cs, .null, .null, .null, .int (nI 0), .int (nI 0), .int (nI 0), .long (lN 0), .int (nI 0), .int (nI 0)])) (a_cs.nk hg rfl)
  have a_ad := fun i hi => (a_ad i hi).up (y := .inr (0, [.ref cs, .null, .null, .null, .int (nI 0), .int (nI 0), .int (nI 0), .long (lN 0), .int (nI 0), .int (nI 0)])) ((a_ad i hi).nk hg rfl)
  have X := X.up (.inr (0, [.ref cs, .null, .null, .null, .int (nI 0), .int (nI 0), .int (nI 0), .long (lN 0), .int (nI 0), .int (nI 0)]))
  have hg := hg.self (y := .inr (0, [.ref cs, .null, .null, .null, .int (nI 0), .int (nI 0), .int (nI 0), .long (lN 0), .int (nI 0), .int (nI 0)]))
  refine px_aload_n hC 0 rfl dX0_init_16 ?_
  refine px_bipush (v := nI 21) hC (by decide) dX0_init_17 ?_
  refine px_newJ (nn := 21) (st := [.ref q]) hC (by decide +kernel) (by first | decide | omega) (by first | exact Nat.le_of_ble_eq_true rfl | (dsimp only; omega)) (by first | exact Nat.le_of_ble_eq_true rfl | (dsimp only; omega)) dX0_init_19 (fun np L2 f2 h2 w2 a_np => ?_)
  have d_a_cs_np : cs ≠ np := fun z => h2 (z ▸ a_cs.1)
  have d_a_ad_np : ∀ i, i < 110 → ad i ≠ np := fun i hi z => h2 (z ▸ (a_ad i hi).1)
  have d_this_np : q ≠ np := fun z => h2 (z ▸ hg.1)
  have n_np : np ∉ L := X.mem h2
  have a_cs := w2.at a_cs
  have a_ad := fun i hi => w2.at (a_ad i hi)
  have hg := w2.at hg
  have X := X.grow w2
  refine px_putF (C := RX0) (T := TX0) (N := 10) (fs' := [.ref cs, .ref np, .null, .null, .int (nI 0), .int (nI 0), .int (nI 0), .long (lN 0), .int (nI 0), .int (nI 0)]) hC hg rfl kkX0_init_X0 1 (by decide) tyX0 tyX0_ok nmX0 flX0_init_18 rfl hnm rfl rfl rfl (Nat.le_of_ble_eq_true rfl) rfl dX0_init_21 ?_
  have a_cs := a_cs.up (y := .inr (0, [.ref cs, .ref np, .null, .null, .int (nI 0), .int (nI 0), .int (nI 0), .long (lN 0), .int (nI 0), .int (nI 0)])) (a_cs.nk hg rfl)
  have a_ad := fun i hi => (a_ad i hi).up (y := .inr (0, [.ref cs, .ref np, .null, .null, .int (nI 0), .int (nI 0), .int (nI 0), .long (lN 0), .int (nI 0), .int (nI 0)])) ((a_ad i hi).nk hg rfl)
  have a_np := a_np.up (y := .inr (0, [.ref cs, .ref np, .null, .null, .int (nI 0), .int (nI 0), .int (nI 0), .long (lN 0), .int (nI 0), .int (nI 0)])) (a_np.nk hg rfl)
  have X := X.up (.inr (0, [.ref cs, .ref np, .null, .null, .int (nI 0), .int (nI 0), .int (nI 0), .long (lN 0), .int (nI 0), .int (nI 0)]))
  have hg := hg.self (y := .inr (0, [.ref cs, .ref np, .null, .null, .int (nI 0), .int (nI 0), .int (nI 0), .long (lN 0), .int (nI 0), .int (nI 0)]))
  refine px_aload_n hC 0 rfl dX0_init_24 ?_
  refine px_bipush (v := nI 21) hC (by decide) dX0_init_25 ?_
  refine px_newJ (nn := 21) (st := [.ref q]) hC (by decide +kernel) (by first | decide | omega) (by first | exact Nat.le_of_ble_eq_true rfl | (dsimp only; omega)) (by first | exact Nat.le_of_ble_eq_true rfl | (dsimp only; omega)) dX0_init_27 (fun od L3 f3 h3 w3 a_od => ?_)
  have d_a_cs_od : cs ≠ od := fun z => h3 (z ▸ a_cs.1)
  have d_a_ad_od : ∀ i, i < 110 → ad i ≠ od := fun i hi z => h3 (z ▸ (a_ad i hi).1)
  have d_a_np_od : np ≠ od := fun z => h3 (z ▸ a_np.1)
  have d_this_od : q ≠ od := fun z => h3 (z ▸ hg.1)
  have n_od : od ∉ L := X.mem h3
  have a_cs := w3.at a_cs
  have a_ad := fun i hi => w3.at (a_ad i hi)
  have a_np := w3.at a_np
  have hg := w3.at hg
  have X := X.grow w3
  refine px_putF (C := RX0) (T := TX0) (N := 10) (fs' := [.ref cs, .ref np, .ref od, .null, .int (nI 0), .int (nI 0), .int (nI 0), .long (lN 0), .int (nI 0), .int (nI 0)]) hC hg rfl kkX0_init_X0 2 (by decide) tyX0 tyX0_ok nmX0 flX0_init_22 rfl hnm rfl rfl rfl (Nat.le_of_ble_eq_true rfl) rfl dX0_init_29 ?_
  have a_cs := a_cs.up (y := .inr (0, [.ref cs, .ref np, .ref od, .null, .int (nI 0), .int (nI 0), .int (nI 0), .long (lN 0), .int (nI 0), .int (nI 0)])) (a_cs.nk hg rfl)
  have a_ad := fun i hi => (a_ad i hi).up (y := .inr (0, [.ref cs, .ref np, .ref od, .null, .int (nI 0), .int (nI 0), .int (nI 0), .long (lN 0), .int (nI 0), .int (nI 0)])) ((a_ad i hi).nk hg rfl)
  have a_np := a_np.up (y := .inr (0, [.ref cs, .ref np, .ref od, .null, .int (nI 0), .int (nI 0), .int (nI 0), .long (lN 0), .int (nI 0), .int (nI 0)])) (a_np.nk hg rfl)
  have a_od := a_od.up (y := .inr (0, [.ref cs, .ref np, .ref od, .null, .int (nI 0), .int (nI 0), .int (nI 0), .long (lN 0), .int (nI 0), .int (nI 0)])) (a_od.nk hg rfl)
  have X := X.up (.inr (0, [.ref cs, .ref np, .ref od, .null, .int (nI 0), .int (nI 0), .int (nI 0), .long (lN 0), .int (nI 0), .int (nI 0)]))
  have hg := hg.self (y := .inr (0, [.ref cs, .ref np, .ref od, .null, .int (nI 0), .int (nI 0), .int (nI 0), .long (lN 0), .int (nI 0), .int (nI 0)]))
  refine px_aload_n hC 0 rfl dX0_init_32 ?_
  refine px_bipush (v := nI 21) hC (by decide) dX0_init_33 ?_
  refine px_newJ (nn := 21) (st := [.ref q]) hC (by decide +kernel) (by first | decide | omega) (by first | exact Nat.le_of_ble_eq_true rfl | (dsimp only; omega)) (by first | exact Nat.le_of_ble_eq_true rfl | (dsimp only; omega)) dX0_init_35 (fun wk L4 f4 h4 w4 a_wk => ?_)
  have d_a_cs_wk : cs ≠ wk := fun z => h4 (z ▸ a_cs.1)
  have d_a_ad_wk : ∀ i, i < 110 → ad i ≠ wk := fun i hi z => h4 (z ▸ (a_ad i hi).1)
  have d_a_np_wk : np ≠ wk := fun z => h4 (z ▸ a_np.1)
  have d_a_od_wk : od ≠ wk := fun z => h4 (z ▸ a_od.1)
  have d_this_wk : q ≠ wk := fun z => h4 (z ▸ hg.1)
  have n_wk : wk ∉ L := X.mem h4
  have a_cs := w4.at a_cs
  have a_ad := fun i hi => w4.at (a_ad i hi)
  have a_np := w4.at a_np
  have a_od := w4.at a_od
  have hg := w4.at hg
  have X := X.grow w4
  refine px_putF (C := RX0) (T := TX0) (N := 10) (fs' := eF cs np od wk (nI 0) (nI 0) (nI 0) (lN 0) (nI 0) (nI 0)) hC hg rfl kkX0_init_X0 3 (by decide) tyX0 tyX0_ok nmX0 flX0_init_25 rfl hnm rfl rfl rfl (Nat.le_of_ble_eq_true rfl) rfl dX0_init_37 ?_
  have a_cs := a_cs.up (y := .inr (0, eF cs np od wk (nI 0) (nI 0) (nI 0) (lN 0) (nI 0) (nI 0))) (a_cs.nk hg rfl)
  have a_ad := fun i hi => (a_ad i hi).up (y := .inr (0, eF cs np od wk (nI 0) (nI 0) (nI 0) (lN 0) (nI 0) (nI 0))) ((a_ad i hi).nk hg rfl)
  have a_np := a_np.up (y := .inr (0, eF cs np od wk (nI 0) (nI 0) (nI 0) (lN 0) (nI 0) (nI 0))) (a_np.nk hg rfl)
  have a_od := a_od.up (y := .inr (0, eF cs np od wk (nI 0) (nI 0) (nI 0) (lN 0) (nI 0) (nI 0))) (a_od.nk hg rfl)
  have a_wk := a_wk.up (y := .inr (0, eF cs np od wk (nI 0) (nI 0) (nI 0) (lN 0) (nI 0) (nI 0))) (a_wk.nk hg rfl)
  have X := X.up (.inr (0, eF cs np od wk (nI 0) (nI 0) (nI 0) (lN 0) (nI 0) (nI 0)))
  have hg := hg.self (y := .inr (0, eF cs np od wk (nI 0) (nI 0) (nI 0) (lN 0) (nI 0) (nI 0)))
  refine px_aload_n hC 0 rfl dX0_init_40 ?_
  refine px_iconst (v := nI 1) hC (by decide) dX0_init_41 ?_
  refine px_put (C := RX0) (T := TX0) (N := 10) (fs' := eF cs np od wk (nI 1) (nI 0) (nI 0) (lN 0) (nI 0) (nI 0)) hC hg rfl kkX0_init_X0 4 (by decide) tyX0 tyX0_ok nmX0 flX0_init_28 rfl rfl rfl (Nat.le_of_ble_eq_true rfl) rfl dX0_init_42 ?_
  have a_cs := a_cs.up (y := .inr (0, eF cs np od wk (nI 1) (nI 0) (nI 0) (lN 0) (nI 0) (nI 0))) (a_cs.nk hg rfl)
  have a_ad := fun i hi => (a_ad i hi).up (y := .inr (0, eF cs np od wk (nI 1) (nI 0) (nI 0) (lN 0) (nI 0) (nI 0))) ((a_ad i hi).nk hg rfl)
  have a_np := a_np.up (y := .inr (0, eF cs np od wk (nI 1) (nI 0) (nI 0) (lN 0) (nI 0) (nI 0))) (a_np.nk hg rfl)
  have a_od := a_od.up (y := .inr (0, eF cs np od wk (nI 1) (nI 0) (nI 0) (lN 0) (nI 0) (nI 0))) (a_od.nk hg rfl)
  have a_wk := a_wk.up (y := .inr (0, eF cs np od wk (nI 1) (nI 0) (nI 0) (lN 0) (nI 0) (nI 0))) (a_wk.nk hg rfl)
  have X := X.up (.inr (0, eF cs np od wk (nI 1) (nI 0) (nI 0) (lN 0) (nI 0) (nI 0)))
  have hg := hg.self (y := .inr (0, eF cs np od wk (nI 1) (nI 0) (nI 0) (lN 0) (nI 0) (nI 0)))
  refine px_aload_n hC 0 rfl dX0_init_45 ?_
  refine px_iconst (v := nI 0) hC (by decide) dX0_init_46 ?_
  refine px_put (C := RX0) (T := TX0) (N := 10) (fs' := eF cs np od wk (nI 1) (nI 0) (nI 0) (lN 0) (nI 0) (nI 0)) hC hg rfl kkX0_init_X0 5 (by decide) tyX0 tyX0_ok nmX0 flX0_init_32 rfl rfl rfl (Nat.le_of_ble_eq_true rfl) rfl dX0_init_47 ?_
  have a_cs := a_cs.up (y := .inr (0, eF cs np od wk (nI 1) (nI 0) (nI 0) (lN 0) (nI 0) (nI 0))) (a_cs.nk hg rfl)
  have a_ad := fun i hi => (a_ad i hi).up (y := .inr (0, eF cs np od wk (nI 1) (nI 0) (nI 0) (lN 0) (nI 0) (nI 0))) ((a_ad i hi).nk hg rfl)
  have a_np := a_np.up (y := .inr (0, eF cs np od wk (nI 1) (nI 0) (nI 0) (lN 0) (nI 0) (nI 0))) (a_np.nk hg rfl)
  have a_od := a_od.up (y := .inr (0, eF cs np od wk (nI 1) (nI 0) (nI 0) (lN 0) (nI 0) (nI 0))) (a_od.nk hg rfl)
  have a_wk := a_wk.up (y := .inr (0, eF cs np od wk (nI 1) (nI 0) (nI 0) (lN 0) (nI 0) (nI 0))) (a_wk.nk hg rfl)
  have X := X.up (.inr (0, eF cs np od wk (nI 1) (nI 0) (nI 0) (lN 0) (nI 0) (nI 0)))
  have hg := hg.self (y := .inr (0, eF cs np od wk (nI 1) (nI 0) (nI 0) (lN 0) (nI 0) (nI 0)))
  refine px_aload_n hC 0 rfl dX0_init_50 ?_
  refine px_iconst (v := nI 0) hC (by decide) dX0_init_51 ?_
  refine px_put (C := RX0) (T := TX0) (N := 10) (fs' := eF cs np od wk (nI 1) (nI 0) (nI 0) (lN 0) (nI 0) (nI 0)) hC hg rfl kkX0_init_X0 6 (by decide) tyX0 tyX0_ok nmX0 flX0_init_35 rfl rfl rfl (Nat.le_of_ble_eq_true rfl) rfl dX0_init_52 ?_
  have a_cs := a_cs.up (y := .inr (0, eF cs np od wk (nI 1) (nI 0) (nI 0) (lN 0) (nI 0) (nI 0))) (a_cs.nk hg rfl)
  have a_ad := fun i hi => (a_ad i hi).up (y := .inr (0, eF cs np od wk (nI 1) (nI 0) (nI 0) (lN 0) (nI 0) (nI 0))) ((a_ad i hi).nk hg rfl)
  have a_np := a_np.up (y := .inr (0, eF cs np od wk (nI 1) (nI 0) (nI 0) (lN 0) (nI 0) (nI 0))) (a_np.nk hg rfl)
  have a_od := a_od.up (y := .inr (0, eF cs np od wk (nI 1) (nI 0) (nI 0) (lN 0) (nI 0) (nI 0))) (a_od.nk hg rfl)
  have a_wk := a_wk.up (y := .inr (0, eF cs np od wk (nI 1) (nI 0) (nI 0) (lN 0) (nI 0) (nI 0))) (a_wk.nk hg rfl)
  have X := X.up (.inr (0, eF cs np od wk (nI 1) (nI 0) (nI 0) (lN 0) (nI 0) (nI 0)))
  have hg := hg.self (y := .inr (0, eF cs np od wk (nI 1) (nI 0) (nI 0) (lN 0) (nI 0) (nI 0)))
  refine px_aload_n hC 0 rfl dX0_init_55 ?_
  refine px_lconst (v := lN 1) hC (by decide) dX0_init_56 ?_
  refine px_put (C := RX0) (T := TX0) (N := 10) (fs' := eF cs np od wk (nI 1) (nI 0) (nI 0) (lN 1) (nI 0) (nI 0)) hC hg rfl kkX0_init_X0 7 (by decide) tyX0 tyX0_ok nmX0 flX0_init_38 rfl rfl rfl (Nat.le_of_ble_eq_true rfl) rfl dX0_init_57 ?_
  have a_cs := a_cs.up (y := .inr (0, eF cs np od wk (nI 1) (nI 0) (nI 0) (lN 1) (nI 0) (nI 0))) (a_cs.nk hg rfl)
  have a_ad := fun i hi => (a_ad i hi).up (y := .inr (0, eF cs np od wk (nI 1) (nI 0) (nI 0) (lN 1) (nI 0) (nI 0))) ((a_ad i hi).nk hg rfl)
  have a_np := a_np.up (y := .inr (0, eF cs np od wk (nI 1) (nI 0) (nI 0) (lN 1) (nI 0) (nI 0))) (a_np.nk hg rfl)
  have a_od := a_od.up (y := .inr (0, eF cs np od wk (nI 1) (nI 0) (nI 0) (lN 1) (nI 0) (nI 0))) (a_od.nk hg rfl)
  have a_wk := a_wk.up (y := .inr (0, eF cs np od wk (nI 1) (nI 0) (nI 0) (lN 1) (nI 0) (nI 0))) (a_wk.nk hg rfl)
  have X := X.up (.inr (0, eF cs np od wk (nI 1) (nI 0) (nI 0) (lN 1) (nI 0) (nI 0)))
  have hg := hg.self (y := .inr (0, eF cs np od wk (nI 1) (nI 0) (nI 0) (lN 1) (nI 0) (nI 0)))
  refine px_aload_n hC 0 rfl dX0_init_60 ?_
  refine px_iconst (v := nI 1) hC (by decide) dX0_init_61 ?_
  refine px_put (C := RX0) (T := TX0) (N := 10) (fs' := eF cs np od wk (nI 1) (nI 0) (nI 0) (lN 1) (nI 1) (nI 0)) hC hg rfl kkX0_init_X0 8 (by decide) tyX0 tyX0_ok nmX0 flX0_init_42 rfl rfl rfl (Nat.le_of_ble_eq_true rfl) rfl dX0_init_62 ?_
  have a_cs := a_cs.up (y := .inr (0, eF cs np od wk (nI 1) (nI 0) (nI 0) (lN 1) (nI 1) (nI 0))) (a_cs.nk hg rfl)
  have a_ad := fun i hi => (a_ad i hi).up (y := .inr (0, eF cs np od wk (nI 1) (nI 0) (nI 0) (lN 1) (nI 1) (nI 0))) ((a_ad i hi).nk hg rfl)
  have a_np := a_np.up (y := .inr (0, eF cs np od wk (nI 1) (nI 0) (nI 0) (lN 1) (nI 1) (nI 0))) (a_np.nk hg rfl)
  have a_od := a_od.up (y := .inr (0, eF cs np od wk (nI 1) (nI 0) (nI 0) (lN 1) (nI 1) (nI 0))) (a_od.nk hg rfl)
  have a_wk := a_wk.up (y := .inr (0, eF cs np od wk (nI 1) (nI 0) (nI 0) (lN 1) (nI 1) (nI 0))) (a_wk.nk hg rfl)
  have X := X.up (.inr (0, eF cs np od wk (nI 1) (nI 0) (nI 0) (lN 1) (nI 1) (nI 0)))
  have hg := hg.self (y := .inr (0, eF cs np od wk (nI 1) (nI 0) (nI 0) (lN 1) (nI 1) (nI 0)))
  refine px_aload_n hC 0 rfl dX0_init_65 ?_
  refine px_iconst (v := nI 1) hC (by decide) dX0_init_66 ?_
  refine px_put (C := RX0) (T := TX0) (N := 10) (fs' := eF cs np od wk (nI 1) (nI 0) (nI 0) (lN 1) (nI 1) (nI 1)) hC hg rfl kkX0_init_X0 9 (by decide) tyX0 tyX0_ok nmX0 flX0_init_45 rfl rfl rfl (Nat.le_of_ble_eq_true rfl) rfl dX0_init_67 ?_
  have a_cs := a_cs.up (y := .inr (0, eF cs np od wk (nI 1) (nI 0) (nI 0) (lN 1) (nI 1) (nI 1))) (a_cs.nk hg rfl)
  have a_ad := fun i hi => (a_ad i hi).up (y := .inr (0, eF cs np od wk (nI 1) (nI 0) (nI 0) (lN 1) (nI 1) (nI 1))) ((a_ad i hi).nk hg rfl)
  have a_np := a_np.up (y := .inr (0, eF cs np od wk (nI 1) (nI 0) (nI 0) (lN 1) (nI 1) (nI 1))) (a_np.nk hg rfl)
  have a_od := a_od.up (y := .inr (0, eF cs np od wk (nI 1) (nI 0) (nI 0) (lN 1) (nI 1) (nI 1))) (a_od.nk hg rfl)
  have a_wk := a_wk.up (y := .inr (0, eF cs np od wk (nI 1) (nI 0) (nI 0) (lN 1) (nI 1) (nI 1))) (a_wk.nk hg rfl)
  have X := X.up (.inr (0, eF cs np od wk (nI 1) (nI 0) (nI 0) (lN 1) (nI 1) (nI 1)))
  have hg := hg.self (y := .inr (0, eF cs np od wk (nI 1) (nI 0) (nI 0) (lN 1) (nI 1) (nI 1)))
  have hD : eD np od wk (fun i => if i < 110 then some (ad i) else none) ad := ⟨fun t ht => if_pos ht, fun t u _ _ h => hj1 t u h, fun t ht => ⟨d_a_ad_np t ht, d_a_ad_od t ht, d_a_ad_wk t ht⟩, d_a_np_od, d_a_np_wk, d_a_od_wk⟩
  have hall : ∀ b, eA q cs np od wk ad b → b ∈ L4 ∧ (b = q ∨ b ∉ L) := fun b hb => by
    rcases hb with rfl | rfl | rfl | rfl | rfl | ⟨u, hu, rfl⟩
    · exact ⟨hg.1, Or.inl rfl⟩
    · exact ⟨a_cs.1, Or.inr n_cs⟩
    · exact ⟨a_np.1, Or.inr n_np⟩
    · exact ⟨a_od.1, Or.inr n_od⟩
    · exact ⟨a_wk.1, Or.inr n_wk⟩
    · exact ⟨(a_ad u hu).1, Or.inr (n_ad u)⟩
  subst hQ
  exact px_vret hC rfl (⟨rfl, cs, np, od, wk, ad, X, ⟨_, ad, _, _, _, _, _, _, hg, a_cs, hD, fun t ht => ⟨t, ht, rfl⟩, fun t ht => ⟨_, a_ad t ht⟩, ⟨_, a_np⟩, ⟨_, a_od⟩, ⟨_, a_wk⟩⟩, hall⟩) dX0_init_70
theorem c_i3 (l : Launch) (E : px_E) (L : List Nat) (f : Nat → va_E) (rr : Nat) (hg : px_at L f rr (.inr (2, [.null, .null, .null, .null, .null, .int (nI 0), .int (nI 0)]))) : px_M l yX3_init wsX3_init (px_rn 2 133 2723 40) E L f [.ref rr] (fun v L' f' => v = none ∧ ∃ sy nm dn el lt cs np od wk tp bt ot ob ad0 ra, gx L f rr L' f' ∧ XS E L' f' rr sy nm dn el lt cs np od wk tp bt ot ob ad0 ra 1 (fun _ _ => nI 0) 0 (fun _ => lN 0) (fun _ => lN 0) ∧ ∀ b, fX rr sy nm dn el lt cs np od wk tp bt ot ob ad0 ra b → b ∈ L' ∧ (b = rr ∨ b ∉ L)) := by
  refine px_M.of (cc := cX3_init) (maxL := 1) (ret := none) (lv := [(0, .ref rr)]) (by decide) rfl (Nat.le_of_ble_eq_true rfl) rfl ?_
  intro p e s m below meth c A hC hnm
  obtain ⟨Q, hQ⟩ : ∃ Q, Q = MQ below (px_Q E (fun v L' f' => v = none ∧ ∃ sy nm dn el lt cs np od wk tp bt ot ob ad0 ra, gx L f rr L' f' ∧ XS E L' f' rr sy nm dn el lt cs np od wk tp bt ot ob ad0 ra 1 (fun _ _ => nI 0) 0 (fun _ => lN 0) (fun _ => lN 0) ∧ ∀ b, fX rr sy nm dn el lt cs np od wk tp bt ot ob ad0 ra b → b ∈ L' ∧ (b = rr ∨ b ∉ L)) A) [.ref rr].toArray s (px_rn 2 133 2723 40).cells (px_rn 2 133 2723 40).slots A := ⟨_, rfl⟩
  rw [← hQ]
  have X : gx L f rr L f := gx.rf _ _ _
  refine px_aload_n hC 0 rfl dX3_init_0 ?_
  refine px_objI (st := []) hC (by decide +kernel) (by decide +kernel) (by decide +kernel) (Nat.le_of_ble_eq_true rfl) (by decide) dX3_init_1 ?_
  refine px_aload_n hC 0 rfl dX3_init_4 ?_
  refine px_bipush (v := nI 10) hC (by decide) dX3_init_5 ?_
  refine px_bipush (v := nI 11) hC (by decide) dX3_init_7 ?_
  refine px_mna (ty := .int) (t0 := 0) (t1 := 3) (N := 10) (M := 11) (z := (11, .inl (fun _ => nI 0))) (st := [.ref rr]) hC (by decide +kernel) hC.2.2.2.2.2.2.2.1.2.2.1.2.1 (by decide +kernel) rfl rfl (fun h => h) (by decide) (by decide) (by decide) (by decide) (by decide) (by first | exact Nat.le_of_ble_eq_true rfl | (dsimp only; omega)) (by first | exact Nat.le_of_ble_eq_true rfl | (dsimp only; omega)) (by intro c0; show ({ cls := c0, slots := Array.replicate 11 (.int 0), vm := .none } : Cell) = _; rw [arrV_new]; rfl) dX3_init_9 (fun sy ra L1 f1 h1 hr1 hj1 w1 a_sy a_ra => ?_)
  have d_this_sy : rr ≠ sy := fun z => h1 (z ▸ hg.1)
  have n_sy : sy ∉ L := X.mem h1
  have n_ra : ∀ i, ra i ∉ L := fun i => X.mem (hr1 i)
  have hg := w1.at hg
  have X := X.grow w1
  refine px_putF (C := RX3) (T := TX3) (N := 7) (fs' := [.ref sy, .null, .null, .null, .null, .int (nI 0), .int (nI 0)]) hC hg rfl kkX3_init_X3 0 (by decide) tyX3 tyX3_ok nmX3 flX3_init_11 rfl hnm rfl rfl rfl (Nat.le_of_ble_eq_true rfl) rfl dX3_init_13 ?_
  have a_sy := a_sy.up (y := .inr (2, [.ref sy, .null, .null, .null, .null, .int (nI 0), .int (nI 0)])) (a_sy.nk hg rfl)
  have a_ra := fun i hi => (a_ra i hi).up (y := .inr (2, [.ref sy, .null, .null, .null, .null, .int (nI 0), .int (nI 0)])) ((a_ra i hi).nk hg rfl)
  have X := X.up (.inr (2, [.ref sy, .null, .null, .null, .null, .int (nI 0), .int (nI 0)]))
  have hg := hg.self (y := .inr (2, [.ref sy, .null, .null, .null, .null, .int (nI 0), .int (nI 0)]))
  refine px_aload_n hC 0 rfl dX3_init_16 ?_
  refine px_bipush (v := nI 10) hC (by decide) dX3_init_17 ?_
  refine px_newJ (nn := 10) (st := [.ref rr]) hC (by decide +kernel) (by first | decide | omega) (by first | exact Nat.le_of_ble_eq_true rfl | (dsimp only; omega)) (by first | exact Nat.le_of_ble_eq_true rfl | (dsimp only; omega)) dX3_init_19 (fun nm L2 f2 h2 w2 a_nm => ?_)
  have d_a_sy_nm : sy ≠ nm := fun z => h2 (z ▸ a_sy.1)
  have d_a_ra_nm : ∀ i, i < 10 → ra i ≠ nm := fun i hi z => h2 (z ▸ (a_ra i hi).1)
  have d_this_nm : rr ≠ nm := fun z => h2 (z ▸ hg.1)
  have n_nm : nm ∉ L := X.mem h2
  have a_sy := w2.at a_sy
  have a_ra := fun i hi => w2.at (a_ra i hi)
  have hg := w2.at hg
  have X := X.grow w2
  refine px_putF (C := RX3) (T := TX3) (N := 7) (fs' := [.ref sy, .ref nm, .null, .null, .null, .int (nI 0), .int (nI 0)]) hC hg rfl kkX3_init_X3 1 (by decide) tyX3 tyX3_ok nmX3 flX3_init_14 rfl hnm rfl rfl rfl (Nat.le_of_ble_eq_true rfl) rfl dX3_init_21 ?_
  have a_sy := a_sy.up (y := .inr (2, [.ref sy, .ref nm, .null, .null, .null, .int (nI 0), .int (nI 0)])) (a_sy.nk hg rfl)
  have a_ra := fun i hi => (a_ra i hi).up (y := .inr (2, [.ref sy, .ref nm, .null, .null, .null, .int (nI 0), .int (nI 0)])) ((a_ra i hi).nk hg rfl)
  have a_nm := a_nm.up (y := .inr (2, [.ref sy, .ref nm, .null, .null, .null, .int (nI 0), .int (nI 0)])) (a_nm.nk hg rfl)
  have X := X.up (.inr (2, [.ref sy, .ref nm, .null, .null, .null, .int (nI 0), .int (nI 0)]))
  have hg := hg.self (y := .inr (2, [.ref sy, .ref nm, .null, .null, .null, .int (nI 0), .int (nI 0)]))
  refine px_aload_n hC 0 rfl dX3_init_24 ?_
  refine px_bipush (v := nI 10) hC (by decide) dX3_init_25 ?_
  refine px_newJ (nn := 10) (st := [.ref rr]) hC (by decide +kernel) (by first | decide | omega) (by first | exact Nat.le_of_ble_eq_true rfl | (dsimp only; omega)) (by first | exact Nat.le_of_ble_eq_true rfl | (dsimp only; omega)) dX3_init_27 (fun dn L3 f3 h3 w3 a_dn => ?_)
  have d_a_sy_dn : sy ≠ dn := fun z => h3 (z ▸ a_sy.1)
  have d_a_ra_dn : ∀ i, i < 10 → ra i ≠ dn := fun i hi z => h3 (z ▸ (a_ra i hi).1)
  have d_a_nm_dn : nm ≠ dn := fun z => h3 (z ▸ a_nm.1)
  have d_this_dn : rr ≠ dn := fun z => h3 (z ▸ hg.1)
  have n_dn : dn ∉ L := X.mem h3
  have a_sy := w3.at a_sy
  have a_ra := fun i hi => w3.at (a_ra i hi)
  have a_nm := w3.at a_nm
  have hg := w3.at hg
  have X := X.grow w3
  refine px_putF (C := RX3) (T := TX3) (N := 7) (fs' := [.ref sy, .ref nm, .ref dn, .null, .null, .int (nI 0), .int (nI 0)]) hC hg rfl kkX3_init_X3 2 (by decide) tyX3 tyX3_ok nmX3 flX3_init_18 rfl hnm rfl rfl rfl (Nat.le_of_ble_eq_true rfl) rfl dX3_init_29 ?_
  have a_sy := a_sy.up (y := .inr (2, [.ref sy, .ref nm, .ref dn, .null, .null, .int (nI 0), .int (nI 0)])) (a_sy.nk hg rfl)
  have a_ra := fun i hi => (a_ra i hi).up (y := .inr (2, [.ref sy, .ref nm, .ref dn, .null, .null, .int (nI 0), .int (nI 0)])) ((a_ra i hi).nk hg rfl)
  have a_nm := a_nm.up (y := .inr (2, [.ref sy, .ref nm, .ref dn, .null, .null, .int (nI 0), .int (nI 0)])) (a_nm.nk hg rfl)
  have a_dn := a_dn.up (y := .inr (2, [.ref sy, .ref nm, .ref dn, .null, .null, .int (nI 0), .int (nI 0)])) (a_dn.nk hg rfl)
  have X := X.up (.inr (2, [.ref sy, .ref nm, .ref dn, .null, .null, .int (nI 0), .int (nI 0)]))
  have hg := hg.self (y := .inr (2, [.ref sy, .ref nm, .ref dn, .null, .null, .int (nI 0), .int (nI 0)]))
  refine px_aload_n hC 0 rfl dX3_init_32 ?_
  refine px_newO (ci := 0) (C := RX0) (T := TX0) (N := 10) (fs := [.null, .null, .null, .null, .int (nI 0), .int (nI 0), .int (nI 0), .long (lN 0), .int (nI 0), .int (nI 0)]) hC rfl kkX3_init_X0 tyX0 tyX0_ok (by decide +kernel) (by decide +kernel) (by decide +kernel) (by decide +kernel) (by first | exact Nat.le_of_ble_eq_true rfl | (dsimp only; omega)) (by first | exact Nat.le_of_ble_eq_true rfl | (dsimp only; omega)) dX3_init_33 (fun el L4 f4 h4 w4 a_el => ?_)
  have d_a_sy_el : sy ≠ el := fun z => h4 (z ▸ a_sy.1)
  have d_a_ra_el : ∀ i, i < 10 → ra i ≠ el := fun i hi z => h4 (z ▸ (a_ra i hi).1)
  have d_a_nm_el : nm ≠ el := fun z => h4 (z ▸ a_nm.1)
  have d_a_dn_el : dn ≠ el := fun z => h4 (z ▸ a_dn.1)
  have d_this_el : rr ≠ el := fun z => h4 (z ▸ hg.1)
  have n_el : el ∉ L := X.mem h4
  have a_sy := w4.at a_sy
  have a_ra := fun i hi => w4.at (a_ra i hi)
  have a_nm := w4.at a_nm
  have a_dn := w4.at a_dn
  have hg := w4.at hg
  have X := X.grow w4
  refine px_dup hC rfl dX3_init_36 ?_
  refine px_callIN (st := [.ref el, .ref rr]) (nn := 0) hC (c_i0 l E _ _ el a_el) gX3_init_X0_init_n23 rfl hC.2.2.2.2.2.2.2.1.2.2.2.2.2.1 (by decide +kernel) (by decide +kernel) rfl (by decide) (by first | decide | (dsimp only; omega)) (Nat.le_of_ble_eq_true rfl) (by first | decide | (dsimp only; omega)) rfl rfl dX3_init_37 (fun v5 L5x f5x q5 => ?_)
  obtain ⟨rfl, cs, np, od, wk, ad0, x5, hE, eall⟩ := q5
  have m5 : ∀ b, b ∈ L4 → b ≠ el → ¬ eA el cs np od wk ad0 b := fun b hb hn h => by
    rcases (eall b h).2 with z | z
    · exact hn z
    · exact z hb
  have k_rr := m5 rr hg.1 d_this_el
  have k_sy := m5 sy a_sy.1 d_a_sy_el
  have k_nm := m5 nm a_nm.1 d_a_nm_el
  have k_dn := m5 dn a_dn.1 d_a_dn_el
  have k_ra := fun i hi => m5 (ra i) (a_ra i hi).1 (d_a_ra_el i hi)
  have mL : ∀ b, b ∈ L → b ∈ L4 := fun b hb => (X b hb).1
  have a_sy := x5.at a_sy d_a_sy_el
  have a_ra := fun i hi => x5.at (a_ra i hi) (d_a_ra_el i hi)
  have a_nm := x5.at a_nm d_a_nm_el
  have a_dn := x5.at a_dn d_a_dn_el
  have hg := x5.at hg d_this_el
  have X := X.tr x5 n_el
  refine px_ev (pc2 := 40) (st2 := [.ref el, .ref rr]) rfl rfl rfl ?_
  have eL5 : ∀ b, eA el cs np od wk ad0 b → b ∈ L5x := fun b hb => (eall b hb).1
  refine px_putF (C := RX3) (T := TX3) (N := 7) (fs' := [.ref sy, .ref nm, .ref dn, .ref el, .null, .int (nI 0), .int (nI 0)]) hC hg rfl kkX3_init_X3 3 (by decide) tyX3 tyX3_ok nmX3 flX3_init_24 rfl hnm rfl rfl rfl (Nat.le_of_ble_eq_true rfl) rfl dX3_init_40 ?_
  have a_sy := a_sy.up (y := .inr (2, [.ref sy, .ref nm, .ref dn, .ref el, .null, .int (nI 0), .int (nI 0)])) (a_sy.nk hg rfl)
  have a_ra := fun i hi => (a_ra i hi).up (y := .inr (2, [.ref sy, .ref nm, .ref dn, .ref el, .null, .int (nI 0), .int (nI 0)])) ((a_ra i hi).nk hg rfl)
  have a_nm := a_nm.up (y := .inr (2, [.ref sy, .ref nm, .ref dn, .ref el, .null, .int (nI 0), .int (nI 0)])) (a_nm.nk hg rfl)
  have a_dn := a_dn.up (y := .inr (2, [.ref sy, .ref nm, .ref dn, .ref el, .null, .int (nI 0), .int (nI 0)])) (a_dn.nk hg rfl)
  have X := X.up (.inr (2, [.ref sy, .ref nm, .ref dn, .ref el, .null, .int (nI 0), .int (nI 0)]))
  have hg := hg.self (y := .inr (2, [.ref sy, .ref nm, .ref dn, .ref el, .null, .int (nI 0), .int (nI 0)]))
  have hE := eOK_gx hE (gx.wr L5x f5x rr (.inr (2, [.ref sy, .ref nm, .ref dn, .ref el, .null, .int (nI 0), .int (nI 0)]))) k_rr
  refine px_aload_n hC 0 rfl dX3_init_43 ?_
  refine px_newO (ci := 1) (C := RX2) (T := TX2) (N := 6) (fs := [.null, .null, .null, .null, .long (lN 0), .long (lN 0)]) hC rfl kkX3_init_X2 tyX2 tyX2_ok (by decide +kernel) (by decide +kernel) (by decide +kernel) (by decide +kernel) (by first | exact Nat.le_of_ble_eq_true rfl | (dsimp only; omega)) (by first | exact Nat.le_of_ble_eq_true rfl | (dsimp only; omega)) dX3_init_44 (fun lt L5 f5 h5 w5 a_lt => ?_)
  have d_a_sy_lt : sy ≠ lt := fun z => h5 (z ▸ a_sy.1)
  have d_a_ra_lt : ∀ i, i < 10 → ra i ≠ lt := fun i hi z => h5 (z ▸ (a_ra i hi).1)
  have d_a_nm_lt : nm ≠ lt := fun z => h5 (z ▸ a_nm.1)
  have d_a_dn_lt : dn ≠ lt := fun z => h5 (z ▸ a_dn.1)
  have d_this_lt : rr ≠ lt := fun z => h5 (z ▸ hg.1)
  have n_lt : lt ∉ L := X.mem h5
  have a_sy := w5.at a_sy
  have a_ra := fun i hi => w5.at (a_ra i hi)
  have a_nm := w5.at a_nm
  have a_dn := w5.at a_dn
  have hg := w5.at hg
  have X := X.grow w5
  have k_lt : ¬ eA el cs np od wk ad0 lt := fun h => h5 (eL5 lt h)
  have hE := eOK_gx hE (w5.toX lt) k_lt
  have eL6 : ∀ b, eA el cs np od wk ad0 b → b ∈ L5 := fun b hb => (w5 b (eL5 b hb)).1
  refine px_dup hC rfl dX3_init_47 ?_
  refine px_callIN (st := [.ref lt, .ref rr]) (nn := 0) hC (c_i2 l E _ _ lt a_lt) gX3_init_X2_init_n30 rfl hC.2.2.2.2.2.2.2.1.2.2.2.2.2.2.1 (by decide +kernel) (by decide +kernel) rfl (by decide) (by first | decide | (dsimp only; omega)) (Nat.le_of_ble_eq_true rfl) (by first | decide | (dsimp only; omega)) rfl rfl dX3_init_48 (fun v6 L6 f6 q6 => ?_)
  obtain ⟨rfl, tp, bt, ot, ob, x6, hL, ftp, fbt, fot, fob⟩ := q6
  have hE := eOK_gx hE x6 k_lt
  have r6 := hg.1
  have ntp : tp ∉ L := X.mem ftp
  have nbt : bt ∉ L := X.mem fbt
  have not_ : ot ∉ L := X.mem fot
  have nob : ob ∉ L := X.mem fob
  have k_tp : ¬ eA el cs np od wk ad0 tp := fun h => ftp (eL6 tp h)
  have k_bt : ¬ eA el cs np od wk ad0 bt := fun h => fbt (eL6 bt h)
  have k_ot : ¬ eA el cs np od wk ad0 ot := fun h => fot (eL6 ot h)
  have k_ob : ¬ eA el cs np od wk ad0 ob := fun h => fob (eL6 ob h)
  have z1 : lt ≠ rr := fun z => d_this_lt z.symm
  have z2 : tp ≠ rr := fun z => ftp (z ▸ r6)
  have z3 : bt ≠ rr := fun z => fbt (z ▸ r6)
  have z4 : ot ≠ rr := fun z => fot (z ▸ r6)
  have z5 : ob ≠ rr := fun z => fob (z ▸ r6)
  have a_sy := x6.at a_sy d_a_sy_lt
  have a_ra := fun i hi => x6.at (a_ra i hi) (d_a_ra_lt i hi)
  have a_nm := x6.at a_nm d_a_nm_lt
  have a_dn := x6.at a_dn d_a_dn_lt
  have hg := x6.at hg d_this_lt
  have X := X.tr x6 n_lt
  refine px_ev (pc2 := 51) (st2 := [.ref lt, .ref rr]) rfl rfl rfl ?_
  refine px_putF (C := RX3) (T := TX3) (N := 7) (fs' := xF sy nm dn el lt (nI 0) (nI 0)) hC hg rfl kkX3_init_X3 4 (by decide) tyX3 tyX3_ok nmX3 flX3_init_31 rfl hnm rfl rfl rfl (Nat.le_of_ble_eq_true rfl) rfl dX3_init_51 ?_
  have a_sy := a_sy.up (y := .inr (2, xF sy nm dn el lt (nI 0) (nI 0))) (a_sy.nk hg rfl)
  have a_ra := fun i hi => (a_ra i hi).up (y := .inr (2, xF sy nm dn el lt (nI 0) (nI 0))) ((a_ra i hi).nk hg rfl)
  have a_nm := a_nm.up (y := .inr (2, xF sy nm dn el lt (nI 0) (nI 0))) (a_nm.nk hg rfl)
  have a_dn := a_dn.up (y := .inr (2, xF sy nm dn el lt (nI 0) (nI 0))) (a_dn.nk hg rfl)
  have X := X.up (.inr (2, xF sy nm dn el lt (nI 0) (nI 0)))
  have hg := hg.self (y := .inr (2, xF sy nm dn el lt (nI 0) (nI 0)))
  have hE := eOK_gx hE (gx.wr L6 _ rr (.inr (2, xF sy nm dn el lt (nI 0) (nI 0)))) k_rr
  have hL := lOK_gx hL (gx.wr L6 _ rr (.inr (2, xF sy nm dn el lt (nI 0) (nI 0)))) z1 z2 z3 z4 z5
  refine px_aload_n hC 0 rfl dX3_init_54 ?_
  refine px_iconst (v := nI 1) hC (by decide) dX3_init_55 ?_
  refine px_put (C := RX3) (T := TX3) (N := 7) (fs' := xF sy nm dn el lt (nI 1) (nI 0)) hC hg rfl kkX3_init_X3 5 (by decide) tyX3 tyX3_ok nmX3 flX3_init_35 rfl rfl rfl (Nat.le_of_ble_eq_true rfl) rfl dX3_init_56 ?_
  have a_sy := a_sy.up (y := .inr (2, xF sy nm dn el lt (nI 1) (nI 0))) (a_sy.nk hg rfl)
  have a_ra := fun i hi => (a_ra i hi).up (y := .inr (2, xF sy nm dn el lt (nI 1) (nI 0))) ((a_ra i hi).nk hg rfl)
  have a_nm := a_nm.up (y := .inr (2, xF sy nm dn el lt (nI 1) (nI 0))) (a_nm.nk hg rfl)
  have a_dn := a_dn.up (y := .inr (2, xF sy nm dn el lt (nI 1) (nI 0))) (a_dn.nk hg rfl)
  have X := X.up (.inr (2, xF sy nm dn el lt (nI 1) (nI 0)))
  have hg := hg.self (y := .inr (2, xF sy nm dn el lt (nI 1) (nI 0)))
  have hE := eOK_gx hE (gx.wr L6 _ rr (.inr (2, xF sy nm dn el lt (nI 1) (nI 0)))) k_rr
  have hL := lOK_gx hL (gx.wr L6 _ rr (.inr (2, xF sy nm dn el lt (nI 1) (nI 0)))) z1 z2 z3 z4 z5
  refine px_aload_n hC 0 rfl dX3_init_59 ?_
  refine px_iconst (v := nI 0) hC (by decide) dX3_init_60 ?_
  refine px_put (C := RX3) (T := TX3) (N := 7) (fs' := xF sy nm dn el lt (nI 1) (nI 0)) hC hg rfl kkX3_init_X3 6 (by decide) tyX3 tyX3_ok nmX3 flX3_init_39 rfl (by decide) (by decide) (Nat.le_of_ble_eq_true rfl) rfl dX3_init_61 ?_
  have a_sy := a_sy.up (y := .inr (2, xF sy nm dn el lt (nI 1) (nI 0))) (a_sy.nk hg rfl)
  have a_ra := fun i hi => (a_ra i hi).up (y := .inr (2, xF sy nm dn el lt (nI 1) (nI 0))) ((a_ra i hi).nk hg rfl)
  have a_nm := a_nm.up (y := .inr (2, xF sy nm dn el lt (nI 1) (nI 0))) (a_nm.nk hg rfl)
  have a_dn := a_dn.up (y := .inr (2, xF sy nm dn el lt (nI 1) (nI 0))) (a_dn.nk hg rfl)
  have X := X.up (.inr (2, xF sy nm dn el lt (nI 1) (nI 0)))
  have hg := hg.self (y := .inr (2, xF sy nm dn el lt (nI 1) (nI 0)))
  have hE := eOK_gx hE (gx.wr L6 _ rr (.inr (2, xF sy nm dn el lt (nI 1) (nI 0)))) k_rr
  have hL := lOK_gx hL (gx.wr L6 _ rr (.inr (2, xF sy nm dn el lt (nI 1) (nI 0)))) z1 z2 z3 z4 z5
  have hG : xG rr sy nm dn el lt cs np od wk tp bt ot ob ad0 ra := ⟨fun i j _ _ h => hj1 i j h, d_a_nm_dn, fun b hb => by
    rcases hb with rfl | rfl | rfl | rfl | rfl | rfl | rfl | rfl | rfl | ⟨i, hi, rfl⟩
    · exact k_rr
    · exact k_sy
    · exact k_nm
    · exact k_dn
    · exact k_lt
    · exact k_tp
    · exact k_bt
    · exact k_ot
    · exact k_ob
    · exact k_ra i hi⟩
  obtain ⟨-, ⟨nu9, de9, c2⟩, ⟨t1, c3⟩, ⟨t2, c4⟩, ⟨t3, c5⟩, ⟨t4, c6⟩⟩ := id hL
  have hall : ∀ b, fX rr sy nm dn el lt cs np od wk tp bt ot ob ad0 ra b → b ∈ L6 ∧ (b = rr ∨ b ∉ L) := fun b hb => by
    rcases hb with rfl | rfl | rfl | rfl | hb | rfl | rfl | rfl | rfl | rfl | ⟨i, hi, rfl⟩
    · exact ⟨hg.1, Or.inl rfl⟩
    · exact ⟨a_sy.1, Or.inr n_sy⟩
    · exact ⟨a_nm.1, Or.inr n_nm⟩
    · exact ⟨a_dn.1, Or.inr n_dn⟩
    · refine ⟨(x6 b (eL6 b hb)).1, Or.inr (fun z => ?_)⟩
      rcases (eall b hb).2 with z2 | z2
      · exact n_el (z2 ▸ z)
      · exact z2 (mL b z)
    · exact ⟨c2.1, Or.inr n_lt⟩
    · exact ⟨c3.1, Or.inr ntp⟩
    · exact ⟨c4.1, Or.inr nbt⟩
    · exact ⟨c5.1, Or.inr not_⟩
    · exact ⟨c6.1, Or.inr nob⟩
    · exact ⟨(a_ra i hi).1, Or.inr (n_ra i)⟩
  subst hQ
  exact px_vret hC rfl (⟨rfl, sy, nm, dn, el, lt, cs, np, od, wk, tp, bt, ot, ob, ad0, ra, X, ⟨hG, by decide, by decide, by decide, hg, ⟨_, a_sy, fun i hi => if_pos hi⟩, a_ra, a_nm, a_dn, hE, hL⟩, hall⟩) dX3_init_64
