/-- N new numbers, all zero -/
def gN (E : px_E) (L : List Nat) (L' : List Nat) (f' : Nat → va_E) (i : Nat) (gd pd : Nat → Nat) : Prop := (∀ t, t < i → gd t ∉ L ∧ pd t ∉ L ∧ gS E L' f' (gd t) (pd t) 0 0 (fun _ => 0) (lN 0)) ∧ (∀ t u, t < i → u < i → gd t = gd u → t = u) ∧ ∀ t u, t < i → u < i → pd t = pd u → t = u
theorem gN.gx {E : px_E} {L0 L L' : List Nat} {f f' : Nat → va_E} {i o : Nat} {gd pd : Nat → Nat} (h : gN E L0 L f i gd pd) (hx : gx L f o L' f') (ho : ∀ t, t < i → gd t ≠ o ∧ pd t ≠ o) : gN E L0 L' f' i gd pd := ⟨fun t ht => ⟨(h.1 t ht).1, (h.1 t ht).2.1, hx.at (h.1 t ht).2.2.1 (ho t ht).1, hx.at (h.1 t ht).2.2.2 (ho t ht).2⟩, h.2⟩
theorem gN.grow {E : px_E} {L0 L L' : List Nat} {f f' : Nat → va_E} {i : Nat} {gd pd : Nat → Nat} (h : gN E L0 L f i gd pd) (hw : gw L f L' f') : gN E L0 L' f' i gd pd := ⟨fun t ht => ⟨(h.1 t ht).1, (h.1 t ht).2.1, hw.at (h.1 t ht).2.2.1, hw.at (h.1 t ht).2.2.2⟩, h.2⟩
theorem two_fn (g1 g2 : Nat → Nat) : ∃ gd : Nat → Nat, (∀ t, t < 110 → gd t = g1 t) ∧ ∀ t, gd (110 + t) = g2 t := ⟨fun t => if t < 110 then g1 t else g2 (t - 110), fun t ht => if_pos ht, fun t => by show (if 110 + t < 110 then g1 (110 + t) else g2 (110 + t - 110)) = _; rw [if_neg (by omega), Nat.add_sub_cancel_left]⟩
theorem kkX5_greats_X4 : ∀ w ∈ wsX40, w ∈ wsX5_greats := fun _ h => List.mem_cons_of_mem _ (List.mem_append_right _ h)
theorem flX5_init_9 : Cond.fieldLink RX5 9 "RowReductionModel" "size" "I" ∈ wsX5_init := by decide +kernel
theorem kkX5_init_X5 : ∀ w ∈ wsX50, w ∈ wsX5_init := fun _ h => List.mem_cons_of_mem _ (List.mem_append_left _ (List.mem_append_right _ h))
theorem flX5_init_13 : Cond.fieldLink RX5 13 "RowReductionModel" "numbers" "[I" ∈ wsX5_init := by decide +kernel
theorem flX5_init_17 : Cond.fieldLink RX5 17 "RowReductionModel" "above" "[J" ∈ wsX5_init := by decide +kernel
theorem flX5_init_21 : Cond.fieldLink RX5 21 "RowReductionModel" "under" "[J" ∈ wsX5_init := by decide +kernel
theorem flX5_init_28 : Cond.fieldLink RX5 28 "RowReductionModel" "matrix" "[LRowReductionModel$Great;" ∈ wsX5_init := by decide +kernel
theorem flX5_init_32 : Cond.fieldLink RX5 32 "RowReductionModel" "some" "[LRowReductionModel$Great;" ∈ wsX5_init := by decide +kernel
theorem c_greats (l : Launch) (E : px_E) (L : List Nat) (f : Nat → va_E) (N : Nat) (hN : N ≤ 1000) : px_M l yX5_greats wsX5_greats (px_rn 2 (1 + 2 * N) (N + 44 * N) 40) E L f [.int (nI N)] (fun v L' f' => ∃ q gd pd sr, v = some (.ref q) ∧ q ∉ L ∧ gw L f L' f' ∧ px_at L' f' q (aG E N sr) ∧ (∀ t, t < N → sr t = some (gd t)) ∧ gN E L L' f' N gd pd) := by
  refine px_M.of (cc := cX5_greats) (maxL := 3) (ret := (some (.array (.object "RowReductionModel$Great")))) (lv := [(0, .int (nI N))]) (by decide) rfl (Nat.le_of_ble_eq_true rfl) rfl ?_
  intro p e s m below meth c A hC hnm
  obtain ⟨Q, hQ⟩ : ∃ Q, Q = MQ below (px_Q E (fun v L' f' => ∃ q gd pd sr, v = some (.ref q) ∧ q ∉ L ∧ gw L f L' f' ∧ px_at L' f' q (aG E N sr) ∧ (∀ t, t < N → sr t = some (gd t)) ∧ gN E L L' f' N gd pd) A) [.int (nI N)].toArray s (px_rn 2 (1 + 2 * N) (N + 44 * N) 40).cells (px_rn 2 (1 + 2 * N) (N + 44 * N) 40).slots A := ⟨_, rfl⟩
  rw [← hQ]
  have loop : ∀ (u i q : Nat) (Li : List Nat) (fi : Nat → va_E) (gd pd : Nat → Nat) (sr : Nat → Option Nat), i + u = N → q ∉ L → gw L f Li fi → px_at Li fi q (aG E N sr) → (∀ t, t < i → sr t = some (gd t)) → gN E L Li fi i gd pd → px p l e (px_rn 2 (1 + 2 * N) (N + 44 * N) 40) s m [.int (nI N)].toArray below meth c 3 E A s.heap Li (fi) (1 + 2 * i) (N + 44 * i) Q 7 [(0, .int (nI N)), (1, .ref q), (2, .int (nI i))] [] := by
    intro u
    induction u with
    | zero =>
      intro i q Li fi gd pd sr hi hq hw hr hs hg
      have ei : i = N := by omega
      subst ei
      refine px_iload_n hC 2 rfl dX5_greats_7 ?_
      refine px_iload_n hC 0 rfl dX5_greats_8 ?_
      refine px_icmp_ge hC 28 dX5_greats_9 (by decide) (fun _ => ?_) (fun q9 => (q9 (nI_le (Nat.le_refl i) (by omega))).elim)
      refine px_aload_n hC 1 rfl dX5_greats_28 ?_
      subst hQ
      exact px_aret hC rfl (Or.inr ⟨_, rfl⟩) (⟨q, gd, pd, sr, rfl, hq, hw, hr, hs, hg⟩) dX5_greats_29
    | succ u ih =>
      intro i q Li fi gd pd sr hi hq hw hr hs hg
      refine px_iload_n hC 2 rfl dX5_greats_7 ?_
      refine px_iload_n hC 0 rfl dX5_greats_8 ?_
      refine px_icmp_ge hC 28 dX5_greats_9 (by decide) (fun q9 => absurd q9 (nI_ge (by omega) (by omega))) (fun _ => ?_)
      refine px_aload_n hC 1 rfl dX5_greats_12 ?_
      refine px_iload_n hC 2 rfl dX5_greats_13 ?_
      refine px_newO (ci := 3) (C := RX4) (T := TX4) (N := 4) (fs := [.null, .int (nI 0), .int (nI 0), .long (lN 0)]) hC rfl kkX5_greats_X4 tyX4 tyX4_ok (by decide +kernel) (by decide +kernel) (by decide +kernel) (by decide +kernel) (by first | exact Nat.le_of_ble_eq_true rfl | (dsimp only; omega)) (by first | exact Nat.le_of_ble_eq_true rfl | (dsimp only; omega)) dX5_greats_14 (fun g1 L1 f1 h1 w1 a1 => ?_)
      refine px_dup hC rfl dX5_greats_17 ?_
      refine px_callIN (st := [.ref g1, .int (nI i), .ref q]) (nn := 0) hC (c_i4 l E _ _ g1 a1) gX5_greats_X4_init_n57 rfl hC.2.2.2.2.2.2.2.1.2.2.2.2.2.2.2 (by decide +kernel) (by decide +kernel) rfl (by decide) (by first | decide | (dsimp only; omega)) (Nat.le_of_ble_eq_true rfl) (by first | decide | (dsimp only; omega)) rfl rfl dX5_greats_18 (fun v2 L2 f2 q2 => ?_)
      obtain ⟨rfl, pa, h2, x2, S2⟩ := q2
      refine px_ev (pc2 := 21) (st2 := [.ref g1, .int (nI i), .ref q]) rfl rfl rfl ?_
      have hg1 := hg.gx ((w1.toX g1)) (fun t ht => ⟨fun z => h1 (z ▸ (hg.1 t ht).2.2.1.1), fun z => h1 (z ▸ (hg.1 t ht).2.2.2.1)⟩)
      have hg2 := hg1.gx x2 (fun t ht => ⟨fun z => h1 (z ▸ (hg.1 t ht).2.2.1.1), fun z => h1 (z ▸ (hg.1 t ht).2.2.2.1)⟩)
      have hr2 := x2.at (w1.at hr) (fun z => h1 (z ▸ hr.1))
      have hw2 : gw L f L2 f2 := gx.new (hw.tr w1) x2 (hw.mem h1)
      refine px_aastG hC hr2 S2.1 (by omega) (by first | decide | assumption | omega) dX5_greats_21 ?_
      refine px_iinc (v := nI (i + 1)) (lv' := [(0, .int (nI N)), (1, .ref q), (2, .int (nI (i + 1)))]) hC 2 [1, 2, 0] dX5_greats_22 rfl (nI_1 i) (by decide) rfl ?_
      refine px_goto hC 7 dX5_greats_25 (by decide) ?_
      refine px_wide (n2 := 1 + 2 * (i + 1)) (k2 := N + 44 * (i + 1)) (by first | omega | (dsimp only; omega)) (by first | omega | (dsimp only; omega)) ?_
      have xq := gx.wr L2 f2 q (aG E N (va_up sr i (some g1)))
      have hg3 := hg2.gx xq (fun t ht => ⟨(hg2.1 t ht).2.2.1.nk hr2 rfl, (hg2.1 t ht).2.2.2.nk hr2 rfl⟩)
      have nq : g1 ≠ q := S2.1.nk hr2 rfl
      have nq2 : pa ≠ q := S2.2.nk hr2 rfl
      refine ih (i + 1) q L2 _ (un gd i g1) (un pd i pa) _ (by omega) hq (fun b hb => ⟨(hw2 b hb).1, (va_up_ne _ _ (show b ≠ q from fun z => hq (z ▸ hb))).trans (hw2 b hb).2⟩) hr2.self (fun t ht => ?_) ⟨fun t ht => ?_, fun t v ht hv => ?_, fun t v ht hv => ?_⟩
      · by_cases z : t = i
        · subst z; rw [va_up_self, un_s]
        · rw [va_up_ne _ _ z, un_n _ _ z]; exact hs t (by omega)
      · by_cases z : t = i
        · subst z; rw [un_s, un_s]; exact ⟨hw.mem h1, hw.mem (w1.mem h2), S2.1.up nq, S2.2.up nq2⟩
        · rw [un_n _ _ z, un_n _ _ z]; exact hg3.1 t (by omega)
      · have fr : ∀ t, t < i → gd t ≠ g1 := fun t ht z => h1 (z ▸ (hg.1 t ht).2.2.1.1)
        by_cases z : t = i <;> by_cases z2 : v = i
        · intro _; omega
        · rw [z, un_s, un_n _ _ z2]; intro e; exact absurd e.symm (fr v (by omega))
        · rw [z2, un_s, un_n _ _ z]; intro e; exact absurd e (fr t (by omega))
        · rw [un_n _ _ z, un_n _ _ z2]; exact hg.2.1 t v (by omega) (by omega)
      · have fr : ∀ t, t < i → pd t ≠ pa := fun t ht z => h2 (z ▸ (hg1.1 t ht).2.2.2.1)
        by_cases z : t = i <;> by_cases z2 : v = i
        · intro _; omega
        · rw [z, un_s, un_n _ _ z2]; intro e; exact absurd e.symm (fr v (by omega))
        · rw [z2, un_s, un_n _ _ z]; intro e; exact absurd e (fr t (by omega))
        · rw [un_n _ _ z, un_n _ _ z2]; exact hg.2.2 t v (by omega) (by omega)
  refine px_iload_n hC 0 rfl dX5_greats_0 ?_
  refine px_newG (nn := N) (st := []) hC (by decide +kernel) (by first | decide | omega) (by first | exact Nat.le_of_ble_eq_true rfl | (dsimp only; omega)) (by first | exact Nat.le_of_ble_eq_true rfl | (dsimp only; omega)) dX5_greats_1 (fun q1 L1 f1 h1 w1 a1 => ?_)
  refine px_astore_n (lv' := [(0, .int (nI N)), (1, .ref q1)]) hC [1, 0] dX5_greats_4 (by decide) rfl ?_
  refine px_iconst (v := nI 0) hC (by decide) dX5_greats_5 ?_
  refine px_istore_n (lv' := [(0, .int (nI N)), (1, .ref q1), (2, .int (nI 0))]) hC [1, 2, 0] dX5_greats_6 (by decide) rfl ?_
  refine px_wide (n2 := 1 + 2 * 0) (k2 := N + 44 * 0) (by first | omega | (dsimp only; omega)) (by first | omega | (dsimp only; omega)) ?_
  exact loop N 0 q1 L1 f1 (fun _ => 0) (fun _ => 0) _ (by omega) h1 w1 a1 (fun t ht => absurd ht (by omega)) ⟨fun t ht => absurd ht (by omega), fun t u ht => absurd ht (by omega), fun t u ht => absurd ht (by omega)⟩
theorem c_i5 (l : Launch) (E : px_E) (L : List Nat) (f : Nat → va_E) (mm : Nat) (hg : px_at L f mm (.inr (4, [.int (nI 0), .null, .null, .null, .int (nI 0), .null, .null]))) : px_M l yX5_init wsX5_init (px_rn 3 241 5440 62) E L f [.ref mm] (fun v L' f' => v = none ∧ ∃ nb ab ud mx so gd pd, gx L f mm L' f' ∧ MS E L' f' mm nb ab ud mx so gd pd 1 (fun _ => nI 0) 0 (fun _ => lN 0) (fun _ => lN 0) ∧ ∀ b, fMo mm nb ab ud mx so gd pd b → b = mm ∨ b ∉ L) := by
  refine px_M.of (cc := cX5_init) (maxL := 1) (ret := none) (lv := [(0, .ref mm)]) (by decide) rfl (Nat.le_of_ble_eq_true rfl) rfl ?_
  intro p e s m below meth c A hC hnm
  obtain ⟨Q, hQ⟩ : ∃ Q, Q = MQ below (px_Q E (fun v L' f' => v = none ∧ ∃ nb ab ud mx so gd pd, gx L f mm L' f' ∧ MS E L' f' mm nb ab ud mx so gd pd 1 (fun _ => nI 0) 0 (fun _ => lN 0) (fun _ => lN 0) ∧ ∀ b, fMo mm nb ab ud mx so gd pd b → b = mm ∨ b ∉ L) A) [.ref mm].toArray s (px_rn 3 241 5440 62).cells (px_rn 3 241 5440 62).slots A := ⟨_, rfl⟩
  rw [← hQ]
  have X : gx L f mm L f := gx.rf _ _ _
  refine px_aload_n hC 0 rfl dX5_init_0 ?_
  refine px_objI (st := []) hC (by decide +kernel) (by decide +kernel) (by decide +kernel) (Nat.le_of_ble_eq_true rfl) (by decide) dX5_init_1 ?_
  refine px_aload_n hC 0 rfl dX5_init_4 ?_
  refine px_iconst (v := nI 1) hC (by decide) dX5_init_5 ?_
  refine px_put (C := RX5) (T := TX5) (N := 7) (fs' := [.int (nI 1), .null, .null, .null, .int (nI 0), .null, .null]) hC hg rfl kkX5_init_X5 0 (by decide) tyX5 tyX5_ok nmX5 flX5_init_9 rfl rfl rfl (Nat.le_of_ble_eq_true rfl) rfl dX5_init_6 ?_
  have X := X.up (.inr (4, [.int (nI 1), .null, .null, .null, .int (nI 0), .null, .null]))
  have hg := hg.self (y := .inr (4, [.int (nI 1), .null, .null, .null, .int (nI 0), .null, .null]))
  refine px_aload_n hC 0 rfl dX5_init_9 ?_
  refine px_bipush (v := nI 110) hC (by decide) dX5_init_10 ?_
  refine px_newI (nn := 110) (st := [.ref mm]) hC (by decide +kernel) (by first | decide | omega) (by first | exact Nat.le_of_ble_eq_true rfl | (dsimp only; omega)) (by first | exact Nat.le_of_ble_eq_true rfl | (dsimp only; omega)) dX5_init_12 (fun nb L1 f1 h1 w1 a_nb => ?_)
  have d_this_nb : mm ≠ nb := fun z => h1 (z ▸ hg.1)
  have n_nb : nb ∉ L := X.mem h1
  have hg := w1.at hg
  have X := X.grow w1
  refine px_putF (C := RX5) (T := TX5) (N := 7) (fs' := [.int (nI 1), .ref nb, .null, .null, .int (nI 0), .null, .null]) hC hg rfl kkX5_init_X5 1 (by decide) tyX5 tyX5_ok nmX5 flX5_init_13 rfl hnm rfl rfl rfl (Nat.le_of_ble_eq_true rfl) rfl dX5_init_14 ?_
  have a_nb := a_nb.up (y := .inr (4, [.int (nI 1), .ref nb, .null, .null, .int (nI 0), .null, .null])) (a_nb.nk hg rfl)
  have X := X.up (.inr (4, [.int (nI 1), .ref nb, .null, .null, .int (nI 0), .null, .null]))
  have hg := hg.self (y := .inr (4, [.int (nI 1), .ref nb, .null, .null, .int (nI 0), .null, .null]))
  refine px_aload_n hC 0 rfl dX5_init_17 ?_
  refine px_bipush (v := nI 10) hC (by decide) dX5_init_18 ?_
  refine px_newJ (nn := 10) (st := [.ref mm]) hC (by decide +kernel) (by first | decide | omega) (by first | exact Nat.le_of_ble_eq_true rfl | (dsimp only; omega)) (by first | exact Nat.le_of_ble_eq_true rfl | (dsimp only; omega)) dX5_init_20 (fun ab L2 f2 h2 w2 a_ab => ?_)
  have d_a_nb_ab : nb ≠ ab := fun z => h2 (z ▸ a_nb.1)
  have d_this_ab : mm ≠ ab := fun z => h2 (z ▸ hg.1)
  have n_ab : ab ∉ L := X.mem h2
  have a_nb := w2.at a_nb
  have hg := w2.at hg
  have X := X.grow w2
  refine px_putF (C := RX5) (T := TX5) (N := 7) (fs' := [.int (nI 1), .ref nb, .ref ab, .null, .int (nI 0), .null, .null]) hC hg rfl kkX5_init_X5 2 (by decide) tyX5 tyX5_ok nmX5 flX5_init_17 rfl hnm rfl rfl rfl (Nat.le_of_ble_eq_true rfl) rfl dX5_init_22 ?_
  have a_nb := a_nb.up (y := .inr (4, [.int (nI 1), .ref nb, .ref ab, .null, .int (nI 0), .null, .null])) (a_nb.nk hg rfl)
  have a_ab := a_ab.up (y := .inr (4, [.int (nI 1), .ref nb, .ref ab, .null, .int (nI 0), .null, .null])) (a_ab.nk hg rfl)
  have X := X.up (.inr (4, [.int (nI 1), .ref nb, .ref ab, .null, .int (nI 0), .null, .null]))
  have hg := hg.self (y := .inr (4, [.int (nI 1), .ref nb, .ref ab, .null, .int (nI 0), .null, .null]))
  refine px_aload_n hC 0 rfl dX5_init_25 ?_
  refine px_bipush (v := nI 10) hC (by decide) dX5_init_26 ?_
  refine px_newJ (nn := 10) (st := [.ref mm]) hC (by decide +kernel) (by first | decide | omega) (by first | exact Nat.le_of_ble_eq_true rfl | (dsimp only; omega)) (by first | exact Nat.le_of_ble_eq_true rfl | (dsimp only; omega)) dX5_init_28 (fun ud L3 f3 h3 w3 a_ud => ?_)
  have d_a_nb_ud : nb ≠ ud := fun z => h3 (z ▸ a_nb.1)
  have d_a_ab_ud : ab ≠ ud := fun z => h3 (z ▸ a_ab.1)
  have d_this_ud : mm ≠ ud := fun z => h3 (z ▸ hg.1)
  have n_ud : ud ∉ L := X.mem h3
  have a_nb := w3.at a_nb
  have a_ab := w3.at a_ab
  have hg := w3.at hg
  have X := X.grow w3
  refine px_putF (C := RX5) (T := TX5) (N := 7) (fs' := [.int (nI 1), .ref nb, .ref ab, .ref ud, .int (nI 0), .null, .null]) hC hg rfl kkX5_init_X5 3 (by decide) tyX5 tyX5_ok nmX5 flX5_init_21 rfl hnm rfl rfl rfl (Nat.le_of_ble_eq_true rfl) rfl dX5_init_30 ?_
  have a_nb := a_nb.up (y := .inr (4, [.int (nI 1), .ref nb, .ref ab, .ref ud, .int (nI 0), .null, .null])) (a_nb.nk hg rfl)
  have a_ab := a_ab.up (y := .inr (4, [.int (nI 1), .ref nb, .ref ab, .ref ud, .int (nI 0), .null, .null])) (a_ab.nk hg rfl)
  have a_ud := a_ud.up (y := .inr (4, [.int (nI 1), .ref nb, .ref ab, .ref ud, .int (nI 0), .null, .null])) (a_ud.nk hg rfl)
  have X := X.up (.inr (4, [.int (nI 1), .ref nb, .ref ab, .ref ud, .int (nI 0), .null, .null]))
  have hg := hg.self (y := .inr (4, [.int (nI 1), .ref nb, .ref ab, .ref ud, .int (nI 0), .null, .null]))
  refine px_aload_n hC 0 rfl dX5_init_33 ?_
  refine px_bipush (v := nI 110) hC (by decide) dX5_init_34 ?_
  refine px_callS (st := [.ref mm]) (nn := 1) hC (c_greats l E _ _ 110 (by decide)) gX5_init_X5_greats rfl (by decide +kernel) (by first | decide | (dsimp only; omega)) (Nat.le_of_ble_eq_true rfl) (by first | decide | (dsimp only; omega)) rfl rfl dX5_init_36 (fun v4 L4 f4 q4 => ?_)
  obtain ⟨mx, g1, p1, mr, rfl, nmx, w4, a_mx, hmr, hN1⟩ := q4
  refine px_ev (pc2 := 39) (st2 := [.ref mx, .ref mm]) rfl rfl rfl ?_
  have n_mx := X.mem nmx
  have c1 : ∀ t, t < 110 → g1 t ∉ L ∧ p1 t ∉ L := fun t ht => ⟨X.mem (hN1.1 t ht).1, X.mem (hN1.1 t ht).2.1⟩
  have a_nb := w4.at a_nb
  have a_ab := w4.at a_ab
  have a_ud := w4.at a_ud
  have hg := w4.at hg
  have X := X.grow w4
  have hgb := hg
  refine px_putF (C := RX5) (T := TX5) (N := 7) (fs' := [.int (nI 1), .ref nb, .ref ab, .ref ud, .int (nI 0), .ref mx, .null]) hC hg rfl kkX5_init_X5 5 (by decide) tyX5 tyX5_ok nmX5 flX5_init_28 rfl hnm rfl rfl rfl (Nat.le_of_ble_eq_true rfl) rfl dX5_init_39 ?_
  have a_nb := a_nb.up (y := .inr (4, [.int (nI 1), .ref nb, .ref ab, .ref ud, .int (nI 0), .ref mx, .null])) (a_nb.nk hg rfl)
  have a_ab := a_ab.up (y := .inr (4, [.int (nI 1), .ref nb, .ref ab, .ref ud, .int (nI 0), .ref mx, .null])) (a_ab.nk hg rfl)
  have a_ud := a_ud.up (y := .inr (4, [.int (nI 1), .ref nb, .ref ab, .ref ud, .int (nI 0), .ref mx, .null])) (a_ud.nk hg rfl)
  have X := X.up (.inr (4, [.int (nI 1), .ref nb, .ref ab, .ref ud, .int (nI 0), .ref mx, .null]))
  have hg := hg.self (y := .inr (4, [.int (nI 1), .ref nb, .ref ab, .ref ud, .int (nI 0), .ref mx, .null]))
  have hN1 := hN1.gx (gx.wr L4 f4 mm (.inr (4, [.int (nI 1), .ref nb, .ref ab, .ref ud, .int (nI 0), .ref mx, .null]))) (fun t ht => ⟨(hN1.1 t ht).2.2.1.nk hgb rfl, (hN1.1 t ht).2.2.2.nk hgb rfl⟩)
  have a_mx := a_mx.up (y := .inr (4, [.int (nI 1), .ref nb, .ref ab, .ref ud, .int (nI 0), .ref mx, .null])) (a_mx.nk hgb rfl)
  refine px_aload_n hC 0 rfl dX5_init_42 ?_
  refine px_bipush (v := nI 8) hC (by decide) dX5_init_43 ?_
  refine px_callS (st := [.ref mm]) (nn := 1) hC (c_greats l E _ _ 8 (by decide)) gX5_init_X5_greats rfl (by decide +kernel) (by first | decide | (dsimp only; omega)) (Nat.le_of_ble_eq_true rfl) (by first | decide | (dsimp only; omega)) rfl rfl dX5_init_45 (fun v5 L5 f5 q5 => ?_)
  obtain ⟨so, g2, p2, sr, rfl, nso, w5, a_so, hsr, hN2⟩ := q5
  refine px_ev (pc2 := 48) (st2 := [.ref so, .ref mm]) rfl rfl rfl ?_
  have n_so := X.mem nso
  have c2 : ∀ t, t < 8 → g2 t ∉ L4 ∧ p2 t ∉ L4 := fun t ht => ⟨(hN2.1 t ht).1, (hN2.1 t ht).2.1⟩
  have c3 : ∀ t, t < 8 → g2 t ∉ L ∧ p2 t ∉ L := fun t ht => ⟨X.mem (c2 t ht).1, X.mem (c2 t ht).2⟩
  have m1 : ∀ t, t < 110 → g1 t ∈ L4 ∧ p1 t ∈ L4 := fun t ht => ⟨(hN1.1 t ht).2.2.1.1, (hN1.1 t ht).2.2.2.1⟩
  have hN1 := hN1.grow w5
  have a_nb := w5.at a_nb
  have a_ab := w5.at a_ab
  have a_ud := w5.at a_ud
  have a_mx := w5.at a_mx
  have hg := w5.at hg
  have X := X.grow w5
  have hgb := hg
  refine px_putF (C := RX5) (T := TX5) (N := 7) (fs' := mF nb ab ud mx so (nI 1) (nI 0)) hC hg rfl kkX5_init_X5 6 (by decide) tyX5 tyX5_ok nmX5 flX5_init_32 rfl hnm rfl rfl rfl (Nat.le_of_ble_eq_true rfl) rfl dX5_init_48 ?_
  have a_nb := a_nb.up (y := .inr (4, mF nb ab ud mx so (nI 1) (nI 0))) (a_nb.nk hg rfl)
  have a_ab := a_ab.up (y := .inr (4, mF nb ab ud mx so (nI 1) (nI 0))) (a_ab.nk hg rfl)
  have a_ud := a_ud.up (y := .inr (4, mF nb ab ud mx so (nI 1) (nI 0))) (a_ud.nk hg rfl)
  have a_mx := a_mx.up (y := .inr (4, mF nb ab ud mx so (nI 1) (nI 0))) (a_mx.nk hg rfl)
  have X := X.up (.inr (4, mF nb ab ud mx so (nI 1) (nI 0)))
  have hg := hg.self (y := .inr (4, mF nb ab ud mx so (nI 1) (nI 0)))
  have hN1 := hN1.gx (gx.wr L5 f5 mm (.inr (4, mF nb ab ud mx so (nI 1) (nI 0)))) (fun t ht => ⟨(hN1.1 t ht).2.2.1.nk hgb rfl, (hN1.1 t ht).2.2.2.nk hgb rfl⟩)
  have hN2 := hN2.gx (gx.wr L5 f5 mm (.inr (4, mF nb ab ud mx so (nI 1) (nI 0)))) (fun t ht => ⟨(hN2.1 t ht).2.2.1.nk hgb rfl, (hN2.1 t ht).2.2.2.nk hgb rfl⟩)
  have a_so := a_so.up (y := .inr (4, mF nb ab ud mx so (nI 1) (nI 0))) (a_so.nk hgb rfl)
  obtain ⟨gd, e1, e2⟩ := two_fn g1 g2
  obtain ⟨pd, e3, e4⟩ := two_fn p1 p2
  have hall : ∀ b, fMo mm nb ab ud mx so gd pd b → b = mm ∨ b ∉ L := fun b hb => by
    rcases hb with rfl | rfl | rfl | rfl | rfl | rfl | ⟨u, hu, hb⟩
    · exact Or.inl rfl
    · exact Or.inr n_nb
    · exact Or.inr n_ab
    · exact Or.inr n_ud
    · exact Or.inr n_mx
    · exact Or.inr n_so
    · by_cases z : u < 110
      · rw [e1 u z, e3 u z] at hb
        rcases hb with rfl | rfl
        · exact Or.inr (c1 u z).1
        · exact Or.inr (c1 u z).2
      · rw [show u = 110 + (u - 110) by omega, e2, e4] at hb
        rcases hb with rfl | rfl
        · exact Or.inr (c3 _ (by omega)).1
        · exact Or.inr (c3 _ (by omega)).2
  have z0 : gC 0 0 (fun _ => 0) 0 := ⟨by decide, fun i hi => absurd hi (by omega), fun h => absurd rfl h, by decide, rfl, ⟨fun h => absurd h (by decide), fun h => absurd h (by omega)⟩⟩
  have hU : gU E L5 (va_up f5 mm (.inr (4, mF nb ab ud mx so (nI 1) (nI 0)))) gd pd (fun _ => 0) := by
    refine ⟨⟨fun u t hu ht => ?_, fun u t hu ht => ?_⟩, fun u hu => ?_⟩
    · by_cases z : u < 110 <;> by_cases z2 : t < 110
      · rw [e1 u z, e1 t z2]; exact hN1.2.1 u t z z2
      · rw [e1 u z, show t = 110 + (t - 110) by omega, e2]; intro h; exact absurd (h ▸ (m1 u z).1) (c2 _ (by omega)).1
      · rw [e1 t z2, show u = 110 + (u - 110) by omega, e2]; intro h; exact absurd (h ▸ (m1 t z2).1) (c2 _ (by omega)).1
      · intro h; rw [show t = 110 + (t - 110) by omega, show u = 110 + (u - 110) by omega, e2, e2] at h; have := hN2.2.1 _ _ (by omega) (by omega) h; omega
    · by_cases z : u < 110 <;> by_cases z2 : t < 110
      · rw [e3 u z, e3 t z2]; exact hN1.2.2 u t z z2
      · rw [e3 u z, show t = 110 + (t - 110) by omega, e4]; intro h; exact absurd (h ▸ (m1 u z).2) (c2 _ (by omega)).2
      · rw [e3 t z2, show u = 110 + (u - 110) by omega, e4]; intro h; exact absurd (h ▸ (m1 t z2).2) (c2 _ (by omega)).2
      · intro h; rw [show t = 110 + (t - 110) by omega, show u = 110 + (u - 110) by omega, e4, e4] at h; have := hN2.2.2 _ _ (by omega) (by omega) h; omega
    · by_cases z : u < 110
      · rw [e1 u z, e3 u z]; exact ⟨0, 0, _, _, (hN1.1 u z).2.2, z0⟩
      · rw [show u = 110 + (u - 110) by omega, e2, e4]; exact ⟨0, 0, _, _, (hN2.1 _ (by omega)).2.2, z0⟩
  subst hQ
  exact px_vret hC rfl (⟨rfl, nb, ab, ud, mx, so, gd, pd, X, ⟨by decide, by decide, by decide, id, fun _ => 0, hg, a_nb, a_ab, a_ud, ⟨mr, a_mx, fun t ht => by rw [hmr t ht]; show _ = some (gd t); rw [e1 t ht]⟩, ⟨sr, a_so, fun t ht => by rw [hsr t ht, e2]⟩, hU, d_a_ab_ud, fun t ht => ht, fun t u _ _ h => h⟩, hall⟩) dX5_init_51
