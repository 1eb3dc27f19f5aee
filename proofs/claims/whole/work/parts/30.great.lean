/-! ===== does it fit a long ===== -/
def gok (V mi : Nat) : Prop := V < 2 ^ 63 ∨ (mi = 1 ∧ V = 2 ^ 63)
theorem lo_next {x : Nat → Nat} {n k : Nat} (h : ∀ i, i < n → x i < 268435456) (hk : k < n) : vl 268435456 x n / 268435456 ^ (k + 1) * 268435456 + x k = vl 268435456 x n / 268435456 ^ k := by
  have h1 := vl_digit (j := k) h
  rw [if_pos hk] at h1
  rw [← h1, Nat.pow_succ, ← Nat.div_div_eq_div_mul]
  omega
theorem lo_lt {x : Nat → Nat} {n : Nat} (h : ∀ i, i < n → x i < 268435456) (hn : n ≤ 3) (h3 : n = 3 → x 2 ≤ 255) : vl 268435456 x n < 2 ^ 64 := by
  rcases (show n ≤ 2 ∨ n = 3 by omega) with q | q
  · have h1 := vl_lt h
    have h2 : 268435456 ^ n ≤ 268435456 ^ 2 := Nat.pow_le_pow_right (by decide) q
    exact Nat.lt_of_lt_of_le h1 (Nat.le_trans h2 (by decide))
  · subst q
    have h0 := h 0 (by decide)
    have h1 := h 1 (by decide)
    have h2 := h3 rfl
    show 0 + x 0 * 268435456 ^ 0 + x 1 * 268435456 ^ 1 + x 2 * 268435456 ^ 2 < 2 ^ 64
    omega
theorem lo_big {x : Nat → Nat} {n : Nat} (h3 : n ≠ 0 → x (n - 1) ≠ 0) (hn : ¬ n ≤ 3) : 2 ^ 64 ≤ vl 268435456 x n := by
  have h1 := gC_top h3 (by omega)
  have h2 : 268435456 ^ 3 ≤ 268435456 ^ (n - 1) := Nat.pow_le_pow_right (by decide) (by omega)
  exact Nat.le_trans (Nat.le_trans (by decide) h2) h1
theorem lo_big3 {x : Nat → Nat} (h : ¬ x 2 ≤ 255) : 2 ^ 64 ≤ vl 268435456 x 3 := by
  show 2 ^ 64 ≤ 0 + x 0 * 268435456 ^ 0 + x 1 * 268435456 ^ 1 + x 2 * 268435456 ^ 2
  omega
theorem gok_not {V mi : Nat} (h : 2 ^ 64 ≤ V) : ¬ gok V mi := fun q => by
  rcases q with q | ⟨-, q⟩ <;> omega
theorem lN_hi {V : Nat} (h : V < 2 ^ 64) (h2 : ¬ V < 2 ^ 63) : ¬ 0 ≤ lg_cmp (lN V) (lN 0) := by
  rw [lg_cmp_ge]
  intro q2
  have h3 : (0 : Int) ≤ (lN V).toInt := by
    have h9 := Int64.le_iff_toInt_le.mp q2
    rw [show (lN 0).toInt = 0 from by decide] at h9
    exact h9
  have h4 : (lN V).toInt = (V : Int) - 2 ^ 64 := by
    show (BitVec.ofNat 64 V).toInt = _
    rw [BitVec.toInt_eq_toNat_cond, BitVec.toNat_ofNat, Nat.mod_eq_of_lt h, if_neg (by omega)]
    rfl
  omega
theorem lN_min {V : Nat} (h : V < 2 ^ 64) (q3 : V ≠ 2 ^ 63) : ¬ lg_cmp (lN V) (-9223372036854775808) = 0 := by
  intro q4
  have h5 : lN V = lN (2 ^ 63) := by
    have h6 : lN V = -9223372036854775808 := by
      unfold lg_cmp at q4
      by_cases h7 : lN V > -9223372036854775808
      · rw [if_pos h7] at q4; exact absurd q4 (by decide)
      · rw [if_neg h7] at q4
        by_cases h8 : lN V = -9223372036854775808
        · exact h8
        · rw [if_neg h8] at q4; exact absurd q4 (by decide)
    rw [h6]; decide
  exact q3 ((lz_inj h (by decide)).mp h5)
theorem flX4_isLong_19 : Cond.fieldLink RX4 19 "RowReductionModel$Great" "minus" "Z" ∈ wsX4_isLong := by decide +kernel
theorem kkX4_isLong_X4 : ∀ w ∈ wsX40, w ∈ wsX4_isLong := fun _ h => List.mem_cons_of_mem _ (List.mem_append_right _ h)
theorem flX4_isLong_65 : Cond.fieldLink RX4 65 "RowReductionModel$Great" "value" "J" ∈ wsX4_isLong := by decide +kernel
theorem flX4_isLong_9 : Cond.fieldLink RX4 9 "RowReductionModel$Great" "parts" "[I" ∈ wsX4_isLong := by decide +kernel
theorem flX4_isLong_15 : Cond.fieldLink RX4 15 "RowReductionModel$Great" "n" "I" ∈ wsX4_isLong := by decide +kernel
theorem c_gLong (l : Launch) (E : px_E) (L : List Nat) (f : Nat → va_E) (g pa n mi : Nat) (x : Nat → Nat) (vv : Int64) (hS : gS E L f g pa n mi x vv) (hn : n ≤ 40) (hx : ∀ i, i < n → x i < 268435456) (h0 : n ≠ 0 → x (n - 1) ≠ 0) (hmi : mi < 2) : px_M l yX4_isLong wsX4_isLong (px_rm 0 0) E L f [.ref g] (px_i L (fun z f' => (z = nI 1 ∧ gok (vl 268435456 x n) mi ∧ ∃ t, t.toInt = vS mi (vl 268435456 x n) ∧ f' = va_up f g (.inr (3, gF pa (nI n) (nI mi) t))) ∨ (z = nI 0 ∧ ¬ gok (vl 268435456 x n) mi ∧ f' = f))) := by
  refine px_M.of (cc := cX4_isLong) (maxL := 4) (ret := (some .boolean)) (lv := [(0, .ref g)]) (by decide) rfl (Nat.le_of_ble_eq_true rfl) rfl ?_
  intro p e s m below meth c A hC hnm
  obtain ⟨Q, hQ⟩ : ∃ Q, Q = MQ below (px_Q E (px_i L (fun z f' => (z = nI 1 ∧ gok (vl 268435456 x n) mi ∧ ∃ t, t.toInt = vS mi (vl 268435456 x n) ∧ f' = va_up f g (.inr (3, gF pa (nI n) (nI mi) t))) ∨ (z = nI 0 ∧ ¬ gok (vl 268435456 x n) mi ∧ f' = f))) A) [.ref g].toArray s (px_rm 0 0).cells (px_rm 0 0).slots A := ⟨_, rfl⟩
  rw [← hQ]
  have no : ¬ gok (vl 268435456 x n) mi → px p l e (px_rm 0 0) s m [.ref g].toArray below meth c 4 E A s.heap L (f) 0 0 Q 28 [(0, .ref g)] [] := by
    intro h
    refine px_iconst (v := nI 0) hC (by decide) dX4_isLong_28 ?_
    subst hQ
    exact px_zret hC rfl (by decide) (⟨_, rfl, rfl, Or.inr ⟨rfl, h, rfl⟩⟩) dX4_isLong_29
  have yes : n ≤ 3 → (n = 3 → x 2 ≤ 255) → px p l e (px_rm 0 0) s m [.ref g].toArray below meth c 4 E A s.heap L (f) 0 0 Q 30 [(0, .ref g)] [] := by
    intro q1 q2
    have hV := lo_lt hx q1 q2
    have fin : ∀ V, vl 268435456 x n = V → V < 2 ^ 64 → px p l e (px_rm 0 0) s m [.ref g].toArray below meth c 4 E A s.heap L (f) 0 0 Q 62 [(0, .ref g), (1, .long (lN V)), (3, .int (nI 0 - nI 1))] [] := by
      intro V hV0 hVl
      have put : gok V mi → px p l e (px_rm 0 0) s m [.ref g].toArray below meth c 4 E A s.heap L (f) 0 0 Q 85 [(0, .ref g), (1, .long (lN V)), (3, .int (nI 0 - nI 1))] [] := by
        intro ok
        have ok2 : V ≤ 2 ^ 63 := by rcases ok with h | ⟨-, h⟩ <;> omega
        refine px_aload_n hC 0 rfl dX4_isLong_85 ?_
        refine px_aload_n hC 0 rfl dX4_isLong_86 ?_
        refine px_get (C := RX4) (T := TX4) (N := 4) hC hS.1 rfl kkX4_isLong_X4 2 (by decide) flX4_isLong_19 rfl dX4_isLong_87 ?_
        rcases two_of hmi with h | h
        · subst h
          refine px_if_eq hC 98 dX4_isLong_90 (by decide) (fun _ => ?_) (fun q9 => (q9 (rfl)).elim)
          refine px_lload_n hC 1 rfl dX4_isLong_98 ?_
          refine px_put (C := RX4) (T := TX4) (N := 4) (fs' := gF pa (nI n) (nI 0) (lN V)) hC hS.1 rfl kkX4_isLong_X4 3 (by decide) tyX4 tyX4_ok nmX4 flX4_isLong_65 rfl rfl rfl (Nat.le_of_ble_eq_true rfl) rfl dX4_isLong_99 ?_
          refine px_iconst (v := nI 1) hC (by decide) dX4_isLong_102 ?_
          subst hQ
          exact px_zret hC rfl (by decide) (⟨_, rfl, rfl, Or.inl ⟨rfl, by rw [hV0]; exact ok, _, by rw [hV0]; exact pk_lT (by rcases ok with h | ⟨h, -⟩; exact h; exact absurd h (by decide)), rfl⟩⟩) dX4_isLong_103
        · subst h
          refine px_if_eq hC 98 dX4_isLong_90 (by decide) (fun q9 => absurd q9 (by decide)) (fun _ => ?_)
          refine px_lload_n hC 1 rfl dX4_isLong_93 ?_
          refine px_lneg hC dX4_isLong_94 ?_
          refine px_goto hC 99 dX4_isLong_95 (by decide) ?_
          refine px_put (C := RX4) (T := TX4) (N := 4) (fs' := gF pa (nI n) (nI 1) (-(lN V))) hC hS.1 rfl kkX4_isLong_X4 3 (by decide) tyX4 tyX4_ok nmX4 flX4_isLong_65 rfl rfl rfl (Nat.le_of_ble_eq_true rfl) rfl dX4_isLong_99 ?_
          refine px_iconst (v := nI 1) hC (by decide) dX4_isLong_102 ?_
          subst hQ
          exact px_zret hC rfl (by decide) (⟨_, rfl, rfl, Or.inl ⟨rfl, by rw [hV0]; exact ok, _, by rw [hV0]; exact lN_neg ok2, rfl⟩⟩) dX4_isLong_103
      have no2 : ¬ gok V mi → px p l e (px_rm 0 0) s m [.ref g].toArray below meth c 4 E A s.heap L (f) 0 0 Q 83 [(0, .ref g), (1, .long (lN V)), (3, .int (nI 0 - nI 1))] [] := by
        intro h
        refine px_iconst (v := nI 0) hC (by decide) dX4_isLong_83 ?_
        subst hQ
        exact px_zret hC rfl (by decide) (⟨_, rfl, rfl, Or.inr ⟨rfl, by rw [hV0]; exact h, rfl⟩⟩) dX4_isLong_84
      refine px_lload_n hC 1 rfl dX4_isLong_62 ?_
      refine px_lconst (v := lN 0) hC (by decide) dX4_isLong_63 ?_
      refine px_lcmp hC dX4_isLong_64 ?_
      by_cases h : V < 2 ^ 63
      · refine px_if_ge hC 85 dX4_isLong_65 (by decide) (fun _ => ?_) (fun q9 => (q9 ((lz_cge h (by decide)).mpr (Nat.zero_le _))).elim)
        exact put (Or.inl h)
      · refine px_if_ge hC 85 dX4_isLong_65 (by decide) (fun q9 => absurd q9 (lN_hi hVl h)) (fun _ => ?_)
        refine px_aload_n hC 0 rfl dX4_isLong_68 ?_
        refine px_get (C := RX4) (T := TX4) (N := 4) hC hS.1 rfl kkX4_isLong_X4 2 (by decide) flX4_isLong_19 rfl dX4_isLong_69 ?_
        rcases two_of hmi with h3 | h3
        · subst h3
          refine px_if_eq hC 83 dX4_isLong_72 (by decide) (fun _ => ?_) (fun q9 => (q9 (rfl)).elim)
          exact no2 (fun q => by rcases q with q | ⟨q, -⟩; exact h q; exact absurd q (by decide))
        · subst h3
          refine px_if_eq hC 83 dX4_isLong_72 (by decide) (fun q9 => absurd q9 (by decide)) (fun _ => ?_)
          refine px_lload_n hC 1 rfl dX4_isLong_75 ?_
          refine px_ldc2 (v := (-9223372036854775808)) hC dX4_isLong_76 (by decide +kernel) ?_
          refine px_lcmp hC dX4_isLong_79 ?_
          by_cases h4 : V = 2 ^ 63
          · subst h4
            refine px_if_eq hC 85 dX4_isLong_80 (by decide) (fun _ => ?_) (fun q9 => (q9 (by decide)).elim)
            exact put (Or.inr ⟨rfl, rfl⟩)
          · refine px_if_eq hC 85 dX4_isLong_80 (by decide) (fun q9 => absurd q9 (lN_min hVl h4)) (fun _ => ?_)
            exact no2 (fun q => by rcases q with q | ⟨-, q⟩; exact h q; exact h4 q)
    have loop : ∀ k, k ≤ n → px p l e (px_rm 0 0) s m [.ref g].toArray below meth c 4 E A s.heap L (f) 0 0 Q 39 [(0, .ref g), (1, .long (lN (vl 268435456 x n / 268435456 ^ k))), (3, .int (nI k - nI 1))] [] := by
      intro k
      induction k with
      | zero =>
        intro hk
        rw [Nat.pow_zero, Nat.div_one]
        refine px_iload_n hC 2 rfl dX4_isLong_39 ?_
        refine px_if_lt hC 62 dX4_isLong_40 (by decide) (fun _ => ?_) (fun q9 => (q9 (by decide)).elim)
        exact fin _ rfl hV
      | succ k ih =>
        intro hk
        have hxk := hx k (by omega)
        have nx := lo_next hx (show k < n by omega)
        have hl : vl 268435456 x n / 268435456 ^ k < 2 ^ 64 := Nat.lt_of_le_of_lt (Nat.div_le_self _ _) hV
        rw [show nI (k + 1) - nI 1 = nI k from nI_pred k]
        refine px_iload_n hC 2 rfl dX4_isLong_39 ?_
        refine px_if_lt hC 62 dX4_isLong_40 (by decide) (fun q9 => absurd q9 (nI_pos (by omega))) (fun _ => ?_)
        refine px_lload_n hC 1 rfl dX4_isLong_43 ?_
        refine px_bipush (v := nI 28) hC (by decide) dX4_isLong_44 ?_
        refine px_lshl hC dX4_isLong_46 ?_
        refine px_el (y := lN (vl 268435456 x n / 268435456 ^ (k + 1) * 2 ^ 28)) (wb_shl _ (by decide)) ?_
        refine px_aload_n hC 0 rfl dX4_isLong_47 ?_
        refine px_get (C := RX4) (T := TX4) (N := 4) hC hS.1 rfl kkX4_isLong_X4 0 (by decide) flX4_isLong_9 rfl dX4_isLong_48 ?_
        refine px_iload_n hC 2 rfl dX4_isLong_51 ?_
        refine px_iald hC hS.2 (by omega) (by first | decide | assumption | omega) dX4_isLong_52 ?_
        refine px_i2l hC dX4_isLong_53 ?_
        refine px_el (y := lN (x k)) (nI_l (by omega)) ?_
        refine px_lor hC dX4_isLong_54 ?_
        refine px_el (y := lN (vl 268435456 x n / 268435456 ^ k)) (by rw [← nx]; exact g_or (k := 28) rfl hxk (by rw [nx]; exact hl)) ?_
        refine px_lstore_n (lv' := [(0, .ref g), (1, .long (lN (vl 268435456 x n / 268435456 ^ k))), (3, .int (nI k))]) hC [1, 0, 2] dX4_isLong_55 (by decide) rfl ?_
        refine px_iinc (v := (nI k - nI 1)) (lv' := [(0, .ref g), (1, .long (lN (vl 268435456 x n / 268435456 ^ k))), (3, .int (nI k - nI 1))]) hC 2 [1, 2, 0] dX4_isLong_56 rfl (by rw [Int32.sub_eq_add_neg]; rfl) (by decide) rfl ?_
        refine px_goto hC 39 dX4_isLong_59 (by decide) ?_
        exact ih (by omega)
    refine px_lconst (v := lN 0) hC (by decide) dX4_isLong_30 ?_
    refine px_lstore_n (lv' := [(0, .ref g), (1, .long (lN 0))]) hC [1, 0] dX4_isLong_31 (by decide) rfl ?_
    refine px_aload_n hC 0 rfl dX4_isLong_32 ?_
    refine px_get (C := RX4) (T := TX4) (N := 4) hC hS.1 rfl kkX4_isLong_X4 1 (by decide) flX4_isLong_15 rfl dX4_isLong_33 ?_
    refine px_iconst (v := nI 1) hC (by decide) dX4_isLong_36 ?_
    refine px_isub hC dX4_isLong_37 ?_
    refine px_istore_n (lv' := [(0, .ref g), (1, .long (lN 0)), (3, .int ((nI n) - nI 1))]) hC [1, 2, 0] dX4_isLong_38 (by decide) rfl ?_
    have h1 := loop n (Nat.le_refl n)
    rw [Nat.div_eq_of_lt (vl_lt hx)] at h1
    exact h1
  refine px_aload_n hC 0 rfl dX4_isLong_0 ?_
  refine px_get (C := RX4) (T := TX4) (N := 4) hC hS.1 rfl kkX4_isLong_X4 1 (by decide) flX4_isLong_15 rfl dX4_isLong_1 ?_
  refine px_iconst (v := nI 3) hC (by decide) dX4_isLong_4 ?_
  by_cases h : n ≤ 3
  · refine px_icmp_gt hC 28 dX4_isLong_5 (by decide) (fun q9 => absurd q9 (nI_nlt h (by omega))) (fun _ => ?_)
    refine px_aload_n hC 0 rfl dX4_isLong_8 ?_
    refine px_get (C := RX4) (T := TX4) (N := 4) hC hS.1 rfl kkX4_isLong_X4 1 (by decide) flX4_isLong_15 rfl dX4_isLong_9 ?_
    refine px_iconst (v := nI 3) hC (by decide) dX4_isLong_12 ?_
    by_cases h3 : n = 3
    · refine px_icmp_ne hC 30 dX4_isLong_13 (by decide) (fun q9 => (q9 (by rw [h3])).elim) (fun _ => ?_)
      refine px_aload_n hC 0 rfl dX4_isLong_16 ?_
      refine px_get (C := RX4) (T := TX4) (N := 4) hC hS.1 rfl kkX4_isLong_X4 0 (by decide) flX4_isLong_9 rfl dX4_isLong_17 ?_
      refine px_iconst (v := nI 2) hC (by decide) dX4_isLong_20 ?_
      refine px_iald hC hS.2 (by omega) (by first | decide | assumption | omega) dX4_isLong_21 ?_
      refine px_sipush (v := nI 255) hC (by decide) dX4_isLong_22 ?_
      have hx2 := hx 2 (by omega)
      by_cases h4 : x 2 ≤ 255
      · refine px_icmp_le hC 30 dX4_isLong_25 (by decide) (fun _ => ?_) (fun q9 => (q9 (nI_le h4 (by omega))).elim)
        exact yes h (fun _ => h4)
      · refine px_icmp_le hC 30 dX4_isLong_25 (by decide) (fun q9 => absurd q9 (nI_ge (b := x 2) (by omega) (by omega))) (fun _ => ?_)
        subst h3
        exact no (gok_not (lo_big3 h4))
    · refine px_icmp_ne hC 30 dX4_isLong_13 (by decide) (fun _ => ?_) (fun q9 => absurd q9 (fun q => h3 (nI_inj2 (by omega) (by omega) q)))
      exact yes h (fun q => absurd q h3)
  · refine px_icmp_gt hC 28 dX4_isLong_5 (by decide) (fun _ => ?_) (fun q9 => (q9 (nI_lt (by omega) (by omega))).elim)
    exact no (gok_not (lo_big h0 h))
