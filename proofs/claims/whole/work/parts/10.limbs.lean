/-- the whole number that 21 limbs stand for -/
def sg (x : Nat → Nat) : Int := if 2147483648 ≤ x 20 then (vl 4294967296 x 21 : Int) - ((4294967296 ^ 21 : Nat) : Int) else vl 4294967296 x 21
theorem vl_neg {x y : Nat → Nat} {k : Nat} (hx : dg x) (hy : dg y) (h : vl 4294967296 y 21 + vl 4294967296 x 21 = k * 4294967296 ^ 21) (hn : 2147483648 ≤ x 20) : vl 4294967296 y 21 = (sg x).natAbs := by
  have h1 := vl_lt hx
  have h2 := vl_lt hy
  have h3 : 0 < vl 4294967296 x 21 := by
    have := vl_ge (B := 4294967296) (x := x) (n := 21) (i := 20) (by decide)
    have h4 : 0 < x 20 * 4294967296 ^ 20 := Nat.mul_pos (by omega) (Nat.pow_pos (by decide))
    omega
  have e : k = 1 := by
    rcases (show k = 0 ∨ k = 1 ∨ 2 ≤ k by omega) with q | q | q
    · subst q; rw [Nat.zero_mul] at h; omega
    · exact q
    · have : 2 * 4294967296 ^ 21 ≤ k * 4294967296 ^ 21 := Nat.mul_le_mul_right _ q
      omega
  subst e
  unfold sg
  rw [if_pos hn]
  omega
theorem vl_pos {x : Nat → Nat} (hn : ¬ 2147483648 ≤ x 20) : vl 4294967296 x 21 = (sg x).natAbs := by
  unfold sg
  rw [if_neg hn]
  omega
theorem vl_top {x : Nat → Nat} {w : Nat} (hw : w ≤ 21) (h : ∀ i, w ≤ i → i < 21 → x i = 0) : vl 4294967296 x 21 = vl 4294967296 x w := by
  have e : vl 4294967296 x (w + (21 - w)) = vl 4294967296 x w + 4294967296 ^ w * vl 4294967296 (fun i => x (w + i)) (21 - w) := vl_a _ _ _ _
  rw [show w + (21 - w) = 21 by omega, vl_c (x := fun i => x (w + i)) (y := fun _ => 0) (fun i hi => h (w + i) (by omega) (by omega)), vl_0] at e
  rw [e]
  omega

theorem c_setTo (l : Launch) (E : px_E) (L : List Nat) (f : Nat → va_E) (a : Nat) (r : Nat → Int64) (v : Int32) (hf : px_at L f a (aJ E 21 r)) : px_M l yX1_setTo wsX1_setTo (px_rm 1 24) E L f [.ref a, .int v] (px_v L (fun f' => f' = va_up f a (aJ E 21 (lw (sx v))))) := by
  refine px_M.of (cc := cX1_setTo) (maxL := 2) (ret := none) (lv := [(0, .ref a), (1, .int v)]) (by decide) rfl (Nat.le_of_ble_eq_true rfl) rfl ?_
  intro p e s m below meth c A hC hnm
  obtain ⟨Q, hQ⟩ : ∃ Q, Q = MQ below (px_Q E (px_v L (fun f' => f' = va_up f a (aJ E 21 (lw (sx v))))) A) [.ref a, .int v].toArray s (px_rm 1 24).cells (px_rm 1 24).slots A := ⟨_, rfl⟩
  rw [← hQ]
  refine px_aload_n hC 0 rfl dX1_setTo_0 ?_
  refine px_iload_n hC 1 rfl dX1_setTo_1 ?_
  by_cases h : 0 ≤ v
  · have hv : ¬ v < 0 := Int32.not_lt.mpr h
    refine px_if_ge hC 11 dX1_setTo_2 (by decide) (fun _ => ?_) (fun q9 => (q9 (h)).elim)
    refine px_lconst (v := lN 0) hC (by decide) dX1_setTo_11 ?_
    refine px_callSv (st := []) (nn := 2) hC (c_fillJ l E L f a 21 r (lN 0) hf (by decide)) gX1_setTo_J7_fill_d0a16 rfl (by decide +kernel) (by decide) (Nat.le_of_ble_eq_true rfl) (by decide) rfl rfl dX1_setTo_12 (fun f1 h1 => ?_)
    subst h1
    refine px_aload_n hC 0 rfl dX1_setTo_15 ?_
    refine px_iconst (v := nI 0) hC (by decide) dX1_setTo_16 ?_
    refine px_iload_n hC 1 rfl dX1_setTo_17 ?_
    refine px_i2l hC dX1_setTo_18 ?_
    refine px_ldc2 (v := 4294967295) hC dX1_setTo_19 (by decide +kernel) ?_
    refine px_el (y := lN 4294967295) (by decide) ?_
    refine px_land hC dX1_setTo_22 ?_
    refine px_el (y := lN v.toBitVec.toNat) (sx_l v) ?_
    refine px_last hC hf.self (by decide) (by first | decide | assumption | omega) dX1_setTo_23 ?_
    rw [px_uu, show vp_updL (fun _ => lN 0) 0 (lN v.toBitVec.toNat) = lw (sx v) from by
      unfold sx; rw [if_neg hv]; exact lw_up (fun _ => 0) 0 _]
    subst hQ
    exact px_vret hC rfl (⟨rfl, rfl, rfl⟩) dX1_setTo_24
  · have hv : v < 0 := Int32.not_le.mp h
    refine px_if_ge hC 11 dX1_setTo_2 (by decide) (fun q9 => absurd q9 (h)) (fun _ => ?_)
    refine px_ldc2 (v := 4294967295) hC dX1_setTo_5 (by decide +kernel) ?_
    refine px_el (y := lN 4294967295) (by decide) ?_
    refine px_goto hC 12 dX1_setTo_8 (by decide) ?_
    refine px_callSv (st := []) (nn := 2) hC (c_fillJ l E L f a 21 r (lN 4294967295) hf (by decide)) gX1_setTo_J7_fill_d0a16 rfl (by decide +kernel) (by decide) (Nat.le_of_ble_eq_true rfl) (by decide) rfl rfl dX1_setTo_12 (fun f1 h1 => ?_)
    subst h1
    refine px_aload_n hC 0 rfl dX1_setTo_15 ?_
    refine px_iconst (v := nI 0) hC (by decide) dX1_setTo_16 ?_
    refine px_iload_n hC 1 rfl dX1_setTo_17 ?_
    refine px_i2l hC dX1_setTo_18 ?_
    refine px_ldc2 (v := 4294967295) hC dX1_setTo_19 (by decide +kernel) ?_
    refine px_el (y := lN 4294967295) (by decide) ?_
    refine px_land hC dX1_setTo_22 ?_
    refine px_el (y := lN v.toBitVec.toNat) (sx_l v) ?_
    refine px_last hC hf.self (by decide) (by first | decide | assumption | omega) dX1_setTo_23 ?_
    rw [px_uu, show vp_updL (fun _ => lN 4294967295) 0 (lN v.toBitVec.toNat) = lw (sx v) from by
      unfold sx; rw [if_pos hv]; exact lw_up (fun _ => 4294967295) 0 _]
    subst hQ
    exact px_vret hC rfl (⟨rfl, rfl, rfl⟩) dX1_setTo_24
theorem c_copyW (l : Launch) (E : px_E) (L : List Nat) (f : Nat → va_E) (a b w : Nat) (x : Nat → Nat) (r : Nat → Int64) (hf : px_at L f a (aJ E 21 (lw x))) (hg : px_at L f b (aJ E 21 r)) (hne : a ≠ b) (h1 : 1 ≤ w) (h2 : w ≤ 21) (hx : dg x) : px_M l yX1_copyWidened wsX1_copyWidened (px_rm 2 47) E L f [.ref a, .int (nI w), .ref b] (px_v L (fun f' => f' = va_up f b (aJ E 21 (lw (wx x w))))) := by
  refine px_M.of (cc := cX1_copyWidened) (maxL := 3) (ret := none) (lv := [(0, .ref a), (1, .int (nI w)), (2, .ref b)]) (by decide) rfl (Nat.le_of_ble_eq_true rfl) rfl ?_
  intro p e s m below meth c A hC hnm
  obtain ⟨Q, hQ⟩ : ∃ Q, Q = MQ below (px_Q E (px_v L (fun f' => f' = va_up f b (aJ E 21 (lw (wx x w))))) A) [.ref a, .int (nI w), .ref b].toArray s (px_rm 2 47).cells (px_rm 2 47).slots A := ⟨_, rfl⟩
  rw [← hQ]
  refine px_aload_n hC 0 rfl dX1_copyWidened_0 ?_
  refine px_iconst (v := nI 0) hC (by decide) dX1_copyWidened_1 ?_
  refine px_aload_n hC 2 rfl dX1_copyWidened_2 ?_
  refine px_iconst (v := nI 0) hC (by decide) dX1_copyWidened_3 ?_
  refine px_iload_n hC 1 rfl dX1_copyWidened_4 ?_
  refine px_copyl hC hf hg (by decide +kernel) (by decide +kernel) (by decide +kernel) (by decide +kernel) (by omega) (by omega) (by decide) (by decide) (by decide) (by decide +kernel) dX1_copyWidened_5 ?_
  refine px_aload_n hC 2 rfl dX1_copyWidened_8 ?_
  refine px_iload_n hC 1 rfl dX1_copyWidened_9 ?_
  refine px_bipush (v := nI 21) hC (by decide) dX1_copyWidened_10 ?_
  refine px_aload_n hC 0 rfl dX1_copyWidened_12 ?_
  refine px_iload_n hC 1 rfl dX1_copyWidened_13 ?_
  refine px_callSi (st := [.int (nI 21), .int (nI w), .ref b]) (nn := 2) hC (c_isNegAt l E L _ a w x (hf.up hne) hx h1 h2) gX1_copyWidened_X1_isNegativeAt rfl (by decide +kernel) (by decide) (Nat.le_of_ble_eq_true rfl) (by decide) rfl rfl dX1_copyWidened_14 (fun z f1 hz => ?_)
  obtain ⟨rfl, hz⟩ := hz
  rcases hz with ⟨rfl, h⟩ | ⟨rfl, h⟩
  · refine px_if_eq hC 26 dX1_copyWidened_17 (by decide) (fun q9 => absurd q9 (by decide)) (fun _ => ?_)
    refine px_ldc2 (v := 4294967295) hC dX1_copyWidened_20 (by decide +kernel) ?_
    refine px_el (y := lN 4294967295) (by decide) ?_
    refine px_goto hC 27 dX1_copyWidened_23 (by decide) ?_
    refine px_callSv (st := []) (nn := 4) hC (c_fillR l E L _ b 21 w 21 _ (lN 4294967295) hg.self h2 (by decide) (by decide)) gX1_copyWidened_J7_fill_bad5a rfl (by decide +kernel) (by decide) (Nat.le_of_ble_eq_true rfl) (by decide) rfl rfl dX1_copyWidened_27 (fun f2 h3 => ?_)
    subst h3
    rw [px_uu]
    refine px_rowJ (r' := lw (wx x w)) (fun i hi => ?_) ?_
    · by_cases q : i < w
      · rw [if_neg (by omega), pk_cpy_in (by omega) (by omega)]
        show lw x (0 + (i - 0)) = lN (wx x w i)
        unfold wx
        rw [if_pos q, show 0 + (i - 0) = i by omega]
        rfl
      · rw [if_pos (by omega)]
        show _ = lN (wx x w i)
        unfold wx
        rw [if_neg q, if_pos h]
    subst hQ
    exact px_vret hC rfl (⟨rfl, rfl, rfl⟩) dX1_copyWidened_30
  · refine px_if_eq hC 26 dX1_copyWidened_17 (by decide) (fun _ => ?_) (fun q9 => (q9 (by decide)).elim)
    refine px_lconst (v := lN 0) hC (by decide) dX1_copyWidened_26 ?_
    refine px_callSv (st := []) (nn := 4) hC (c_fillR l E L _ b 21 w 21 _ (lN 0) hg.self h2 (by decide) (by decide)) gX1_copyWidened_J7_fill_bad5a rfl (by decide +kernel) (by decide) (Nat.le_of_ble_eq_true rfl) (by decide) rfl rfl dX1_copyWidened_27 (fun f2 h3 => ?_)
    subst h3
    rw [px_uu]
    refine px_rowJ (r' := lw (wx x w)) (fun i hi => ?_) ?_
    · by_cases q : i < w
      · rw [if_neg (by omega), pk_cpy_in (by omega) (by omega)]
        show lw x (0 + (i - 0)) = lN (wx x w i)
        unfold wx
        rw [if_pos q, show 0 + (i - 0) = i by omega]
        rfl
      · rw [if_pos (by omega)]
        show _ = lN (wx x w i)
        unfold wx
        rw [if_neg q, if_neg (by omega)]
    subst hQ
    exact px_vret hC rfl (⟨rfl, rfl, rfl⟩) dX1_copyWidened_30
theorem c_copyN (l : Launch) (E : px_E) (L : List Nat) (f : Nat → va_E) (a b : Nat) (x : Nat → Nat) (r : Nat → Int64) (hf : px_at L f a (aJ E 21 (lw x))) (hg : px_at L f b (aJ E 21 r)) (hne : a ≠ b) (hx : dg x) : px_M l yX1_copyNegated wsX1_copyNegated (px_rm 1 32) E L f [.ref a, .ref b] (px_v L (fun f' => ∃ y, dg y ∧ (∃ k, vl 4294967296 y 21 + vl 4294967296 x 21 = k * 4294967296 ^ 21) ∧ f' = va_up f b (aJ E 21 (lw y)))) := by
  refine px_M.of (cc := cX1_copyNegated) (maxL := 2) (ret := none) (lv := [(0, .ref a), (1, .ref b)]) (by decide) rfl (Nat.le_of_ble_eq_true rfl) rfl ?_
  intro p e s m below meth c A hC hnm
  obtain ⟨Q, hQ⟩ : ∃ Q, Q = MQ below (px_Q E (px_v L (fun f' => ∃ y, dg y ∧ (∃ k, vl 4294967296 y 21 + vl 4294967296 x 21 = k * 4294967296 ^ 21) ∧ f' = va_up f b (aJ E 21 (lw y)))) A) [.ref a, .ref b].toArray s (px_rm 1 32).cells (px_rm 1 32).slots A := ⟨_, rfl⟩
  rw [← hQ]
  refine px_aload_n hC 1 rfl dX1_copyNegated_0 ?_
  refine px_lconst (v := lN 0) hC (by decide) dX1_copyNegated_1 ?_
  refine px_callSv (st := []) (nn := 2) hC (c_fillJ l E L f b 21 r (lN 0) hg (by decide)) gX1_copyNegated_J7_fill_d0a16 rfl (by decide +kernel) (by decide) (Nat.le_of_ble_eq_true rfl) (by decide) rfl rfl dX1_copyNegated_2 (fun f1 h1 => ?_)
  subst h1
  refine px_aload_n hC 1 rfl dX1_copyNegated_5 ?_
  refine px_iconst (v := nI 0) hC (by decide) dX1_copyNegated_6 ?_
  refine px_lconst (v := lN 1) hC (by decide) dX1_copyNegated_7 ?_
  refine px_aload_n hC 0 rfl dX1_copyNegated_8 ?_
  refine px_bipush (v := nI 21) hC (by decide) dX1_copyNegated_9 ?_
  refine px_callSv (st := []) (nn := 5) hC (c_subS l E L _ b a 0 1 21 (fun _ => 0) x hg.self (hf.up hne) hne (by decide) (by decide) (by decide) (fun _ _ => by show 0 < 4294967296; decide) hx) gX1_copyNegated_X1_subtractScaled rfl (by decide +kernel) (by decide) (Nat.le_of_ble_eq_true rfl) (by decide) rfl rfl dX1_copyNegated_11 (fun f2 h2 => ?_)
  obtain ⟨y, hy, -, ⟨k, hk⟩, rfl⟩ := h2
  rw [px_uu]
  subst hQ
  exact px_vret hC rfl (⟨rfl, rfl, y, hy, ⟨k, by rw [vl_0, Nat.pow_zero, Nat.mul_one, Nat.one_mul, Nat.zero_add, Nat.sub_zero] at hk; exact hk⟩, rfl⟩) dX1_copyNegated_14
theorem c_copyM (l : Launch) (E : px_E) (L : List Nat) (f : Nat → va_E) (a b : Nat) (x : Nat → Nat) (r : Nat → Int64) (hf : px_at L f a (aJ E 21 (lw x))) (hg : px_at L f b (aJ E 21 r)) (hne : a ≠ b) (hx : dg x) : px_M l yX1_copyMagnitude wsX1_copyMagnitude (px_rm 2 53) E L f [.ref a, .ref b] (px_v L (fun f' => ∃ y, dg y ∧ vl 4294967296 y 21 = (sg x).natAbs ∧ f' = va_up f b (aJ E 21 (lw y)))) := by
  refine px_M.of (cc := cX1_copyMagnitude) (maxL := 2) (ret := none) (lv := [(0, .ref a), (1, .ref b)]) (by decide) rfl (Nat.le_of_ble_eq_true rfl) rfl ?_
  intro p e s m below meth c A hC hnm
  obtain ⟨Q, hQ⟩ : ∃ Q, Q = MQ below (px_Q E (px_v L (fun f' => ∃ y, dg y ∧ vl 4294967296 y 21 = (sg x).natAbs ∧ f' = va_up f b (aJ E 21 (lw y)))) A) [.ref a, .ref b].toArray s (px_rm 2 53).cells (px_rm 2 53).slots A := ⟨_, rfl⟩
  rw [← hQ]
  refine px_aload_n hC 0 rfl dX1_copyMagnitude_0 ?_
  refine px_callSi (st := []) (nn := 1) hC (c_isNeg l E L f a x hf hx) gX1_copyMagnitude_X1_isNegative rfl (by decide +kernel) (by decide) (Nat.le_of_ble_eq_true rfl) (by decide) rfl rfl dX1_copyMagnitude_1 (fun z f1 hz => ?_)
  obtain ⟨rfl, hz⟩ := hz
  rcases hz with ⟨rfl, h⟩ | ⟨rfl, h⟩
  · refine px_if_eq hC 15 dX1_copyMagnitude_4 (by decide) (fun q9 => absurd q9 (by decide)) (fun _ => ?_)
    refine px_aload_n hC 0 rfl dX1_copyMagnitude_7 ?_
    refine px_aload_n hC 1 rfl dX1_copyMagnitude_8 ?_
    refine px_callSv (st := []) (nn := 2) hC (c_copyN l E L _ a b x r hf hg hne hx) gX1_copyMagnitude_X1_copyNegated rfl (by decide +kernel) (by decide) (Nat.le_of_ble_eq_true rfl) (by decide) rfl rfl dX1_copyMagnitude_9 (fun f2 h3 => ?_)
    obtain ⟨y, hy, ⟨k, hk⟩, rfl⟩ := h3
    refine px_goto hC 20 dX1_copyMagnitude_12 (by decide) ?_
    subst hQ
    exact px_vret hC rfl (⟨rfl, rfl, y, hy, vl_neg hx hy hk h, rfl⟩) dX1_copyMagnitude_20
  · refine px_if_eq hC 15 dX1_copyMagnitude_4 (by decide) (fun _ => ?_) (fun q9 => (q9 (by decide)).elim)
    refine px_aload_n hC 0 rfl dX1_copyMagnitude_15 ?_
    refine px_aload_n hC 1 rfl dX1_copyMagnitude_16 ?_
    refine px_callSv (st := []) (nn := 2) hC (c_copy l E L _ a b x r hf hg) gX1_copyMagnitude_X1_copy rfl (by decide +kernel) (by decide) (Nat.le_of_ble_eq_true rfl) (by decide) rfl rfl dX1_copyMagnitude_17 (fun f2 h3 => ?_)
    subst h3
    subst hQ
    exact px_vret hC rfl (⟨rfl, rfl, x, hx, vl_pos (by omega), rfl⟩) dX1_copyMagnitude_20
theorem c_lowB (l : Launch) (E : px_E) (L : List Nat) (f : Nat → va_E) (a : Nat) (x : Nat → Nat) (hf : px_at L f a (aJ E 21 (lw x))) (hx : dg x) : px_M l yX2_lowBits wsX2_lowBits (px_rm 0 0) E L f [.ref a] (px_l L (fun z f' => f' = f ∧ z = lN (x 1 * 4294967296 + x 0))) := by
  refine px_M.of (cc := cX2_lowBits) (maxL := 1) (ret := (some .long)) (lv := [(0, .ref a)]) (by decide) rfl (Nat.le_of_ble_eq_true rfl) rfl ?_
  intro p e s m below meth c A hC hnm
  obtain ⟨Q, hQ⟩ : ∃ Q, Q = MQ below (px_Q E (px_l L (fun z f' => f' = f ∧ z = lN (x 1 * 4294967296 + x 0))) A) [.ref a].toArray s (px_rm 0 0).cells (px_rm 0 0).slots A := ⟨_, rfl⟩
  rw [← hQ]
  have h0 := hx 0 (by decide)
  have h1 := hx 1 (by decide)
  refine px_aload_n hC 0 rfl dX2_lowBits_0 ?_
  refine px_iconst (v := nI 1) hC (by decide) dX2_lowBits_1 ?_
  refine px_lald hC hf (by decide) (by first | decide | assumption | omega) dX2_lowBits_2 ?_
  refine px_bipush (v := nI 32) hC (by decide) dX2_lowBits_3 ?_
  refine px_lshl hC dX2_lowBits_5 ?_
  refine px_el (y := lN (x 1 * 2 ^ 32)) (wb_shl (x 1) (by decide)) ?_
  refine px_aload_n hC 0 rfl dX2_lowBits_6 ?_
  refine px_iconst (v := nI 0) hC (by decide) dX2_lowBits_7 ?_
  refine px_lald hC hf (by decide) (by first | decide | assumption | omega) dX2_lowBits_8 ?_
  refine px_lor hC dX2_lowBits_9 ?_
  refine px_el (y := lN (x 1 * 4294967296 + x 0)) (g_or (k := 32) rfl h0 (by omega)) ?_
  subst hQ
  exact px_lret hC rfl (⟨_, rfl, rfl, rfl, rfl⟩) dX2_lowBits_10
theorem fl_sum {x : Nat → Nat} (h : ∀ i, 2 ≤ i → i < 21 → x i = 0) : vl 4294967296 x 21 = x 1 * 4294967296 + x 0 := by
  rw [vl_top (w := 2) (by decide) h]
  show 0 + x 0 * 4294967296 ^ 0 + x 1 * 4294967296 ^ 1 = _
  omega
theorem fl_big {x : Nat → Nat} {i : Nat} (h2 : 2 ≤ i) (hi : i < 21) (h : x i ≠ 0) : 18446744073709551616 ≤ vl 4294967296 x 21 := by
  have h1 := vl_ge (B := 4294967296) (x := x) hi
  have h3 : 4294967296 ^ 2 ≤ 4294967296 ^ i := Nat.pow_le_pow_right (by decide) h2
  have h4 : 1 * 4294967296 ^ i ≤ x i * 4294967296 ^ i := Nat.mul_le_mul_right _ (by omega)
  have h5 : (4294967296 : Nat) ^ 2 = 18446744073709551616 := by decide
  omega
theorem c_fits (l : Launch) (E : px_E) (L : List Nat) (f : Nat → va_E) (a b : Nat) (x : Nat → Nat) (hf : px_at L f a (aJ E 21 (lw x))) (hx : dg x) (hb : b < 2) : px_M l yX2_fitsLong wsX2_fitsLong (px_rm 1 20) E L f [.ref a, .int (nI b)] (px_i L (fun z f' => f' = f ∧ ((z = nI 1 ∧ (vl 4294967296 x 21 < 2 ^ 63 ∨ (b = 1 ∧ vl 4294967296 x 21 = 2 ^ 63)) ∧ vl 4294967296 x 21 = x 1 * 4294967296 + x 0) ∨ (z = nI 0 ∧ ¬ (vl 4294967296 x 21 < 2 ^ 63 ∨ (b = 1 ∧ vl 4294967296 x 21 = 2 ^ 63)))))) := by
  refine px_M.of (cc := cX2_fitsLong) (maxL := 4) (ret := (some .boolean)) (lv := [(0, .ref a), (1, .int (nI b))]) (by decide) rfl (Nat.le_of_ble_eq_true rfl) rfl ?_
  intro p e s m below meth c A hC hnm
  obtain ⟨Q, hQ⟩ : ∃ Q, Q = MQ below (px_Q E (px_i L (fun z f' => f' = f ∧ ((z = nI 1 ∧ (vl 4294967296 x 21 < 2 ^ 63 ∨ (b = 1 ∧ vl 4294967296 x 21 = 2 ^ 63)) ∧ vl 4294967296 x 21 = x 1 * 4294967296 + x 0) ∨ (z = nI 0 ∧ ¬ (vl 4294967296 x 21 < 2 ^ 63 ∨ (b = 1 ∧ vl 4294967296 x 21 = 2 ^ 63)))))) A) [.ref a, .int (nI b)].toArray s (px_rm 1 20).cells (px_rm 1 20).slots A := ⟨_, rfl⟩
  rw [← hQ]
  have h0 := hx 0 (by decide)
  have h1 := hx 1 (by decide)
  have loop : ∀ (d i : Nat), i + d = 21 → 2 ≤ i → (∀ j, 2 ≤ j → j < i → x j = 0) → px p l e (px_rm 1 20) s m [.ref a, .int (nI b)].toArray below meth c 4 E A s.heap L (f) 0 0 Q 2 [(0, .ref a), (1, .int (nI b)), (2, .int (nI i))] [] := by
    intro d
    induction d with
    | zero =>
      intro i hi h2 hz
      have e : i = 21 := by omega
      subst e
      have hs := fl_sum hz
      refine px_iload_n hC 2 rfl dX2_fitsLong_2 ?_
      refine px_bipush (v := nI 21) hC (by decide) dX2_fitsLong_3 ?_
      refine px_icmp_ge hC 24 dX2_fitsLong_5 (by decide) (fun _ => ?_) (fun q9 => (q9 (by decide)).elim)
      refine px_aload_n hC 0 rfl dX2_fitsLong_24 ?_
      refine px_callSl (st := []) (nn := 1) hC (c_lowB l E L f a x hf hx) gX2_fitsLong_X2_lowBits rfl (by decide +kernel) (by decide) (Nat.le_of_ble_eq_true rfl) (by decide) rfl rfl dX2_fitsLong_25 (fun z f1 hz1 => ?_)
      obtain ⟨rfl, rfl⟩ := hz1
      rw [← hs]
      generalize hV : vl 4294967296 x 21 = V at hs ⊢
      have hVl : V < 2 ^ 64 := by omega
      refine px_lstore_n (lv' := [(0, .ref a), (1, .int (nI b)), (2, .long (lN (V)))]) hC [1, 2, 0] dX2_fitsLong_28 (by decide) rfl ?_
      refine px_lload_n hC 2 rfl dX2_fitsLong_29 ?_
      refine px_lconst (v := lN 0) hC (by decide) dX2_fitsLong_30 ?_
      refine px_lcmp hC dX2_fitsLong_31 ?_
      by_cases q : V < 2 ^ 63
      · refine px_if_ge hC 47 dX2_fitsLong_32 (by decide) (fun _ => ?_) (fun q9 => (q9 ((lz_cge q (by decide)).mpr (Nat.zero_le _))).elim)
        refine px_iconst (v := nI 1) hC (by decide) dX2_fitsLong_47 ?_
        refine px_goto hC 52 dX2_fitsLong_48 (by decide) ?_
        subst hQ
        exact px_zret hC rfl (by decide) (⟨_, rfl, rfl, rfl, Or.inl ⟨rfl, Or.inl (by rw [hV]; exact q), by rw [hV]; exact hs⟩⟩) dX2_fitsLong_52
      · have hneg : ¬ 0 ≤ lg_cmp (lN V) (lN 0) := by
          rw [lg_cmp_ge]
          intro q2
          have h3 : (0 : Int) ≤ (lN V).toInt := by
            have h9 := Int64.le_iff_toInt_le.mp q2
            rw [show (lN 0).toInt = 0 from by decide] at h9
            exact h9
          have h4 : (lN V).toInt = (V : Int) - 2 ^ 64 := by
            show (BitVec.ofNat 64 V).toInt = _
            rw [BitVec.toInt_eq_toNat_cond, BitVec.toNat_ofNat, Nat.mod_eq_of_lt hVl, if_neg (by omega)]
            rfl
          omega
        refine px_if_ge hC 47 dX2_fitsLong_32 (by decide) (fun q9 => absurd q9 (hneg)) (fun _ => ?_)
        refine px_iload_n hC 1 rfl dX2_fitsLong_35 ?_
        rcases (show b = 0 ∨ b = 1 by omega) with rfl | rfl
        · refine px_if_eq hC 51 dX2_fitsLong_36 (by decide) (fun _ => ?_) (fun q9 => (q9 (by decide)).elim)
          refine px_iconst (v := nI 0) hC (by decide) dX2_fitsLong_51 ?_
          subst hQ
          exact px_zret hC rfl (by decide) (⟨_, rfl, rfl, rfl, Or.inr ⟨rfl, fun q3 => by rw [hV] at q3; omega⟩⟩) dX2_fitsLong_52
        · refine px_if_eq hC 51 dX2_fitsLong_36 (by decide) (fun q9 => absurd q9 (by decide)) (fun _ => ?_)
          refine px_lload_n hC 2 rfl dX2_fitsLong_39 ?_
          refine px_ldc2 (v := (-9223372036854775808)) hC dX2_fitsLong_40 (by decide +kernel) ?_
          refine px_lcmp hC dX2_fitsLong_43 ?_
          by_cases q3 : V = 2 ^ 63
          · subst q3
            refine px_if_ne hC 51 dX2_fitsLong_44 (by decide) (fun q9 => (q9 (by decide)).elim) (fun _ => ?_)
            refine px_iconst (v := nI 1) hC (by decide) dX2_fitsLong_47 ?_
            refine px_goto hC 52 dX2_fitsLong_48 (by decide) ?_
            subst hQ
            exact px_zret hC rfl (by decide) (⟨_, rfl, rfl, rfl, Or.inl ⟨rfl, Or.inr ⟨rfl, hV⟩, by rw [hV]; exact hs⟩⟩) dX2_fitsLong_52
          · have hne : ¬ lg_cmp (lN V) (-9223372036854775808) = 0 := by
              intro q4
              have h5 : lN V = lN (2 ^ 63) := by
                have h6 : lN V = -9223372036854775808 := by
                  unfold lg_cmp at q4
                  by_cases h7 : lN V > -9223372036854775808
                  · rw [if_pos h7] at q4; exact absurd q4 (by decide)
                  · rw [if_neg h7] at q4
                    by_cases h8 : lN V = -9223372036854775808
                    · exact h8
                    · rw [if_neg h8] at q4; exact absurd q4 (by decide)
                rw [h6]; decide
              exact q3 ((lz_inj hVl (by decide)).mp h5)
            refine px_if_ne hC 51 dX2_fitsLong_44 (by decide) (fun _ => ?_) (fun q9 => absurd q9 (hne))
            refine px_iconst (v := nI 0) hC (by decide) dX2_fitsLong_51 ?_
            subst hQ
            exact px_zret hC rfl (by decide) (⟨_, rfl, rfl, rfl, Or.inr ⟨rfl, fun q5 => by rw [hV] at q5; omega⟩⟩) dX2_fitsLong_52
    | succ d ih =>
      intro i hi h2 hz
      have hxi := hx i (by omega)
      refine px_iload_n hC 2 rfl dX2_fitsLong_2 ?_
      refine px_bipush (v := nI 21) hC (by decide) dX2_fitsLong_3 ?_
      refine px_icmp_ge hC 24 dX2_fitsLong_5 (by decide) (fun q9 => absurd q9 (nI_ge (by omega) (by omega))) (fun _ => ?_)
      refine px_aload_n hC 0 rfl dX2_fitsLong_8 ?_
      refine px_iload_n hC 2 rfl dX2_fitsLong_9 ?_
      refine px_lald hC hf (by omega) (by first | decide | assumption | omega) dX2_fitsLong_10 ?_
      refine px_lconst (v := lN 0) hC (by decide) dX2_fitsLong_11 ?_
      refine px_lcmp hC dX2_fitsLong_12 ?_
      by_cases h : x i = 0
      · refine px_if_eq hC 18 dX2_fitsLong_13 (by decide) (fun _ => ?_) (fun q9 => (q9 ((lz_c0 (by omega) (by omega)).mpr h)).elim)
        refine px_iinc (v := nI (i + 1)) (lv' := [(0, .ref a), (1, .int (nI b)), (2, .int (nI (i + 1)))]) hC 2 [1, 2, 0] dX2_fitsLong_18 rfl (nI_1 i) (by decide) rfl ?_
        refine px_goto hC 2 dX2_fitsLong_21 (by decide) ?_
        exact ih (i + 1) (by omega) (by omega) (fun j h3 h4 => by
          by_cases q : j = i
          · subst q; exact h
          · exact hz j h3 (by omega))
      · have hbig := fl_big h2 (by omega) h
        refine px_if_eq hC 18 dX2_fitsLong_13 (by decide) (fun q9 => absurd q9 (fun q => h ((lz_c0 (by omega) (by omega)).mp q))) (fun _ => ?_)
        refine px_iconst (v := nI 0) hC (by decide) dX2_fitsLong_16 ?_
        subst hQ
        exact px_zret hC rfl (by decide) (⟨_, rfl, rfl, rfl, Or.inr ⟨rfl, fun q => by omega⟩⟩) dX2_fitsLong_17
  refine px_iconst (v := nI 2) hC (by decide) dX2_fitsLong_0 ?_
  refine px_istore_n (lv' := [(0, .ref a), (1, .int (nI b)), (2, .int (nI 2))]) hC [1, 2, 0] dX2_fitsLong_1 (by decide) rfl ?_
  exact loop 19 2 (by omega) (by omega) (fun j h3 h4 => absurd h3 (by omega))
theorem c_rmT (l : Launch) (E : px_E) (L : List Nat) (f : Nat → va_E) (a w : Nat) (x : Nat → Nat) (hf : px_at L f a (aJ E 21 (lw x))) (hx : dg x) (hw : w ≤ 21) (ht : ∀ i, w ≤ i → i < 21 → x i = 0) (h0 : vl 4294967296 x w ≠ 0) : px_M l yX2_removeTwos wsX2_removeTwos (px_rm 2 51) E L f [.ref a, .int (nI w)] (px_v L (fun f' => ∃ y, dg y ∧ (∀ i, w ≤ i → i < 21 → y i = 0) ∧ (∃ t o, vl 4294967296 x w = 2 ^ t * (2 * o + 1) ∧ vl 4294967296 y w = 2 * o + 1) ∧ f' = va_up f a (aJ E 21 (lw y)))) := by
  refine px_M.of (cc := cX2_removeTwos) (maxL := 2) (ret := none) (lv := [(0, .ref a), (1, .int (nI w))]) (by decide) rfl (Nat.le_of_ble_eq_true rfl) rfl ?_
  intro p e s m below meth c A hC hnm
  obtain ⟨Q, hQ⟩ : ∃ Q, Q = MQ below (px_Q E (px_v L (fun f' => ∃ y, dg y ∧ (∀ i, w ≤ i → i < 21 → y i = 0) ∧ (∃ t o, vl 4294967296 x w = 2 ^ t * (2 * o + 1) ∧ vl 4294967296 y w = 2 * o + 1) ∧ f' = va_up f a (aJ E 21 (lw y)))) A) [.ref a, .int (nI w)].toArray s (px_rm 2 51).cells (px_rm 2 51).slots A := ⟨_, rfl⟩
  rw [← hQ]
  refine px_aload_n hC 0 rfl dX2_removeTwos_0 ?_
  refine px_aload_n hC 0 rfl dX2_removeTwos_1 ?_
  refine px_callSi (st := [.ref a]) (nn := 1) hC (c_trailZ l E L f a x hf hx) gX2_removeTwos_X1_trailingZeros rfl (by decide +kernel) (by decide) (Nat.le_of_ble_eq_true rfl) (by decide) rfl rfl dX2_removeTwos_2 (fun z f1 hz => ?_)
  obtain ⟨rfl, t, rfl, hz⟩ := hz
  have e21 := vl_top hw ht
  rcases hz with ⟨h1, h2⟩ | ⟨h1, o, h2⟩
  · exact absurd (by rw [← e21]; exact h1) h0
  · refine px_iload_n hC 1 rfl dX2_removeTwos_5 ?_
    refine px_callSv (st := []) (nn := 3) hC (c_shr l E L _ a t w x hf hx hw (by omega)) gX2_removeTwos_X1_shiftRight rfl (by decide +kernel) (by decide) (Nat.le_of_ble_eq_true rfl) (by decide) rfl rfl dX2_removeTwos_6 (fun f2 h3 => ?_)
    obtain ⟨y, hy, hk, hv, rfl⟩ := h3
    subst hQ
    exact px_vret hC rfl (⟨rfl, rfl, y, hy, fun i h4 h5 => by rw [hk i h4]; exact ht i h4 h5, ⟨t, o, by rw [← e21]; exact h2, by rw [hv, ← e21, h2, Nat.mul_div_cancel_left _ (Nat.pow_pos (by decide))]⟩, rfl⟩) dX2_removeTwos_9
