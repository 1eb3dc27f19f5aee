/-! ===== limbs: pure rows ===== -/
def dg (x : Nat → Nat) : Prop := ∀ i, i < 21 → x i < 4294967296
theorem dg_un {x : Nat → Nat} {j z : Nat} (h : dg x) (hz : z < 4294967296) : dg (un x j z) := by
  intro i hi
  by_cases q : i = j
  · subst q; rw [un_s]; exact hz
  · rw [un_n _ _ q]; exact h i hi
theorem ss_part {fac nv br : Nat} (h1 : fac < 4294967296) (h2 : nv < 4294967296) (h3 : br < 4294967296) : fac * nv + br < 2 ^ 64 := by
  have : fac * nv ≤ 4294967295 * 4294967295 := Nat.mul_le_mul (by omega) (by omega)
  omega
theorem ss_key {P yv : Nat} (h : P ≤ 4294967295 * 4294967295 + 4294967295) (h4 : yv < 4294967296) : (yv + 18446744073709551616 - P % 4294967296) % 18446744073709551616 % 4294967296 + P = yv + (P / 2 ^ 32 + (yv + 18446744073709551616 - P % 4294967296) % 18446744073709551616 / 2 ^ 63) * 4294967296 ∧ P / 2 ^ 32 + (yv + 18446744073709551616 - P % 4294967296) % 18446744073709551616 / 2 ^ 63 < 4294967296 := by
  omega
theorem ss_inv {B fac s i br z br' nv yv V T N : Nat} (hs : s ≤ i) (h0 : V + fac * B ^ s * N = T + br * B ^ i) (hz : z + (fac * nv + br) = yv + br' * B) : (V + z * B ^ i) + fac * B ^ s * (N + nv * B ^ (i - s)) = (T + yv * B ^ i) + br' * B ^ (i + 1) := by
  have e1 : B ^ s * B ^ (i - s) = B ^ i := by rw [← Nat.pow_add]; congr 1; omega
  have e2 : fac * B ^ s * (N + nv * B ^ (i - s)) = fac * B ^ s * N + fac * nv * B ^ i := by rw [← e1]; grind
  have e3 : br' * B ^ (i + 1) = (br' * B) * B ^ i := by rw [Nat.pow_succ]; grind
  have e4 : (z + (fac * nv + br)) * B ^ i = (yv + br' * B) * B ^ i := by rw [hz]
  rw [e2, e3]
  grind

theorem c_limbAt (l : Launch) (E : px_E) (L : List Nat) (f : Nat → va_E) (a i w : Nat) (x : Nat → Nat) (hf : px_at L f a (aJ E 21 (lw x))) (hw : w ≤ 21) (hi : i < 2 ^ 31) : px_M l yX1_limbAt wsX1_limbAt (px_rm 0 0) E L f [.ref a, .int (nI i), .int (nI w)] (px_l L (fun z f' => f' = f ∧ z = lN (if i < w then x i else 0))) := by
  refine px_M.of (cc := cX1_limbAt) (maxL := 3) (ret := (some .long)) (lv := [(0, .ref a), (1, .int (nI i)), (2, .int (nI w))]) (by decide) rfl (Nat.le_of_ble_eq_true rfl) rfl ?_
  intro p e s m below meth c A hC hnm
  obtain ⟨Q, hQ⟩ : ∃ Q, Q = MQ below (px_Q E (px_l L (fun z f' => f' = f ∧ z = lN (if i < w then x i else 0))) A) [.ref a, .int (nI i), .int (nI w)].toArray s (px_rm 0 0).cells (px_rm 0 0).slots A := ⟨_, rfl⟩
  rw [← hQ]
  refine px_iload_n hC 1 rfl dX1_limbAt_0 ?_
  refine px_iload_n hC 2 rfl dX1_limbAt_1 ?_
  by_cases h : i < w
  · refine px_icmp_ge hC 11 dX1_limbAt_2 (by decide) (fun q9 => ((nI_ge h (by omega)) q9).elim) (fun _ => ?_)
    refine px_aload_n hC 0 rfl dX1_limbAt_5 ?_
    refine px_iload_n hC 1 rfl dX1_limbAt_6 ?_
    refine px_lald hC hf (by omega) (by first | decide | assumption | omega) dX1_limbAt_7 ?_
    refine px_goto hC 12 dX1_limbAt_8 (by decide) ?_
    subst hQ
    exact px_lret hC rfl (⟨_, rfl, rfl, rfl, by rw [if_pos h]; rfl⟩) dX1_limbAt_12
  · refine px_icmp_ge hC 11 dX1_limbAt_2 (by decide) (fun _ => ?_) (fun q9 => (q9 (nI_le (by omega) (by omega))).elim)
    refine px_lconst (v := lN 0) hC (by decide) dX1_limbAt_11 ?_
    subst hQ
    exact px_lret hC rfl (⟨_, rfl, rfl, rfl, by rw [if_neg h]⟩) dX1_limbAt_12
theorem c_isZero (l : Launch) (E : px_E) (L : List Nat) (f : Nat → va_E) (a : Nat) (x : Nat → Nat) (hf : px_at L f a (aJ E 21 (lw x))) (hx : dg x) : px_M l yX1_isZero wsX1_isZero (px_rm 0 0) E L f [.ref a] (px_i L (fun z f' => f' = f ∧ ((z = nI 1 ∧ vl 4294967296 x 21 = 0) ∨ (z = nI 0 ∧ vl 4294967296 x 21 ≠ 0)))) := by
  refine px_M.of (cc := cX1_isZero) (maxL := 2) (ret := (some .boolean)) (lv := [(0, .ref a)]) (by decide) rfl (Nat.le_of_ble_eq_true rfl) rfl ?_
  intro p e s m below meth c A hC hnm
  obtain ⟨Q, hQ⟩ : ∃ Q, Q = MQ below (px_Q E (px_i L (fun z f' => f' = f ∧ ((z = nI 1 ∧ vl 4294967296 x 21 = 0) ∨ (z = nI 0 ∧ vl 4294967296 x 21 ≠ 0)))) A) [.ref a].toArray s (px_rm 0 0).cells (px_rm 0 0).slots A := ⟨_, rfl⟩
  rw [← hQ]
  have loop : ∀ (d i : Nat), i + d = 21 → vl 4294967296 x i = 0 → px p l e (px_rm 0 0) s m [.ref a].toArray below meth c 2 E A s.heap L (f) 0 0 Q 2 [(0, .ref a), (1, .int (nI i))] [] := by
    intro d
    induction d with
    | zero =>
      intro i hi h0
      refine px_iload_n hC 1 rfl dX1_isZero_2 ?_
      refine px_bipush (v := nI 21) hC (by decide) dX1_isZero_3 ?_
      refine px_icmp_ge hC 24 dX1_isZero_5 (by decide) (fun _ => ?_) (fun q9 => (q9 (nI_le (by omega) (by omega))).elim)
      refine px_iconst (v := nI 1) hC (by decide) dX1_isZero_24 ?_
      subst hQ
      exact px_zret hC rfl (by decide) (⟨_, rfl, rfl, rfl, Or.inl ⟨rfl, by rw [show 21 = i by omega]; exact h0⟩⟩) dX1_isZero_25
    | succ d ih =>
      intro i hi h0
      refine px_iload_n hC 1 rfl dX1_isZero_2 ?_
      refine px_bipush (v := nI 21) hC (by decide) dX1_isZero_3 ?_
      refine px_icmp_ge hC 24 dX1_isZero_5 (by decide) (fun q9 => ((nI_ge (by omega) (by omega)) q9).elim) (fun _ => ?_)
      refine px_aload_n hC 0 rfl dX1_isZero_8 ?_
      refine px_iload_n hC 1 rfl dX1_isZero_9 ?_
      refine px_lald hC hf (by omega) (by first | decide | assumption | omega) dX1_isZero_10 ?_
      refine px_lconst (v := lN 0) hC (by decide) dX1_isZero_11 ?_
      refine px_lcmp hC dX1_isZero_12 ?_
      by_cases h : x i = 0
      · refine px_if_eq hC 18 dX1_isZero_13 (by decide) (fun _ => ?_) (fun q9 => (q9 ((lz_c0 (by have := hx i (by omega); omega) (by omega)).mpr h)).elim)
        refine px_iinc (v := nI (i + 1)) (lv' := [(0, .ref a), (1, .int (nI (i + 1)))]) hC 1 [1, 0] dX1_isZero_18 rfl (nI_1 i) (by decide) rfl ?_
        refine px_goto hC 2 dX1_isZero_21 (by decide) ?_
        exact ih (i + 1) (by omega) (by show vl 4294967296 x i + x i * 4294967296 ^ i = 0; rw [h0, h]; omega)
      · refine px_if_eq hC 18 dX1_isZero_13 (by decide) (fun q9 => ((fun q => h ((lz_c0 (by have := hx i (by omega); omega) (by omega)).mp q)) q9).elim) (fun _ => ?_)
        refine px_iconst (v := nI 0) hC (by decide) dX1_isZero_16 ?_
        subst hQ
        exact px_zret hC rfl (by decide) (⟨_, rfl, rfl, rfl, Or.inr ⟨rfl, fun q => h (vl_z (by decide) q i (by omega))⟩⟩) dX1_isZero_17
  refine px_iconst (v := nI 0) hC (by decide) dX1_isZero_0 ?_
  refine px_istore_n (lv' := [(0, .ref a), (1, .int (nI 0))]) hC [1, 0] dX1_isZero_1 (by decide) rfl ?_
  exact loop 21 0 (by omega) rfl
theorem c_isNegAt (l : Launch) (E : px_E) (L : List Nat) (f : Nat → va_E) (a w : Nat) (x : Nat → Nat) (hf : px_at L f a (aJ E 21 (lw x))) (hx : dg x) (h1 : 1 ≤ w) (h2 : w ≤ 21) : px_M l yX1_isNegativeAt wsX1_isNegativeAt (px_rm 0 0) E L f [.ref a, .int (nI w)] (px_i L (fun z f' => f' = f ∧ ((z = nI 1 ∧ 2147483648 ≤ x (w - 1)) ∨ (z = nI 0 ∧ x (w - 1) < 2147483648)))) := by
  refine px_M.of (cc := cX1_isNegativeAt) (maxL := 2) (ret := (some .boolean)) (lv := [(0, .ref a), (1, .int (nI w))]) (by decide) rfl (Nat.le_of_ble_eq_true rfl) rfl ?_
  intro p e s m below meth c A hC hnm
  obtain ⟨Q, hQ⟩ : ∃ Q, Q = MQ below (px_Q E (px_i L (fun z f' => f' = f ∧ ((z = nI 1 ∧ 2147483648 ≤ x (w - 1)) ∨ (z = nI 0 ∧ x (w - 1) < 2147483648)))) A) [.ref a, .int (nI w)].toArray s (px_rm 0 0).cells (px_rm 0 0).slots A := ⟨_, rfl⟩
  rw [← hQ]
  have hb := hx (w - 1) (by omega)
  refine px_aload_n hC 0 rfl dX1_isNegativeAt_0 ?_
  refine px_iload_n hC 1 rfl dX1_isNegativeAt_1 ?_
  refine px_iconst (v := nI 1) hC (by decide) dX1_isNegativeAt_2 ?_
  refine px_isub hC dX1_isNegativeAt_3 ?_
  refine px_ei (y := nI (w - 1)) (pk_sub h1) ?_
  refine px_lald hC hf (by omega) (by first | decide | assumption | omega) dX1_isNegativeAt_4 ?_
  refine px_bipush (v := nI 31) hC (by decide) dX1_isNegativeAt_5 ?_
  refine px_lushr hC dX1_isNegativeAt_7 ?_
  refine px_el (y := lN (x (w - 1) / 2 ^ 31)) (wb_shr (n := x (w - 1)) (by omega) (by decide)) ?_
  refine px_lconst (v := lN 0) hC (by decide) dX1_isNegativeAt_8 ?_
  refine px_lcmp hC dX1_isNegativeAt_9 ?_
  by_cases h : x (w - 1) < 2147483648
  · refine px_if_eq hC 17 dX1_isNegativeAt_10 (by decide) (fun _ => ?_) (fun q9 => (q9 ((lz_c0 (by omega) (by omega)).mpr (by omega))).elim)
    refine px_iconst (v := nI 0) hC (by decide) dX1_isNegativeAt_17 ?_
    subst hQ
    exact px_zret hC rfl (by decide) (⟨_, rfl, rfl, rfl, Or.inr ⟨rfl, h⟩⟩) dX1_isNegativeAt_18
  · refine px_if_eq hC 17 dX1_isNegativeAt_10 (by decide) (fun q9 => ((fun q => h (by have := (lz_c0 (by omega) (by omega)).mp q; omega)) q9).elim) (fun _ => ?_)
    refine px_iconst (v := nI 1) hC (by decide) dX1_isNegativeAt_13 ?_
    refine px_goto hC 18 dX1_isNegativeAt_14 (by decide) ?_
    subst hQ
    exact px_zret hC rfl (by decide) (⟨_, rfl, rfl, rfl, Or.inl ⟨rfl, by omega⟩⟩) dX1_isNegativeAt_18
theorem c_isNeg (l : Launch) (E : px_E) (L : List Nat) (f : Nat → va_E) (a : Nat) (x : Nat → Nat) (hf : px_at L f a (aJ E 21 (lw x))) (hx : dg x) : px_M l yX1_isNegative wsX1_isNegative (px_rm 1 21) E L f [.ref a] (px_i L (fun z f' => f' = f ∧ ((z = nI 1 ∧ 2147483648 ≤ x 20) ∨ (z = nI 0 ∧ x 20 < 2147483648)))) := by
  refine px_M.of (cc := cX1_isNegative) (maxL := 1) (ret := (some .boolean)) (lv := [(0, .ref a)]) (by decide) rfl (Nat.le_of_ble_eq_true rfl) rfl ?_
  intro p e s m below meth c A hC hnm
  obtain ⟨Q, hQ⟩ : ∃ Q, Q = MQ below (px_Q E (px_i L (fun z f' => f' = f ∧ ((z = nI 1 ∧ 2147483648 ≤ x 20) ∨ (z = nI 0 ∧ x 20 < 2147483648)))) A) [.ref a].toArray s (px_rm 1 21).cells (px_rm 1 21).slots A := ⟨_, rfl⟩
  rw [← hQ]
  refine px_aload_n hC 0 rfl dX1_isNegative_0 ?_
  refine px_bipush (v := nI 21) hC (by decide) dX1_isNegative_1 ?_
  refine px_callSi (st := []) (nn := 2) hC (c_isNegAt l E L f a 21 x hf hx (by decide) (by decide)) gX1_isNegative_X1_isNegativeAt rfl (by decide +kernel) (by decide) (Nat.le_of_ble_eq_true rfl) (by decide) rfl rfl dX1_isNegative_3 (fun z f1 h => ?_)
  obtain ⟨rfl, h⟩ := h
  rcases h with ⟨rfl, h⟩ | ⟨rfl, h⟩
  · subst hQ
    exact px_zret hC rfl (by decide) (⟨_, rfl, rfl, rfl, Or.inl ⟨rfl, h⟩⟩) dX1_isNegative_6
  · subst hQ
    exact px_zret hC rfl (by decide) (⟨_, rfl, rfl, rfl, Or.inr ⟨rfl, h⟩⟩) dX1_isNegative_6
theorem c_copy (l : Launch) (E : px_E) (L : List Nat) (f : Nat → va_E) (a b : Nat) (x : Nat → Nat) (r : Nat → Int64) (hf : px_at L f a (aJ E 21 (lw x))) (hg : px_at L f b (aJ E 21 r)) : px_M l yX1_copy wsX1_copy (px_rm 1 30) E L f [.ref a, .ref b] (px_v L (fun f' => f' = va_up f b (aJ E 21 (lw x)))) := by
  refine px_M.of (cc := cX1_copy) (maxL := 2) (ret := none) (lv := [(0, .ref a), (1, .ref b)]) (by decide) rfl (Nat.le_of_ble_eq_true rfl) rfl ?_
  intro p e s m below meth c A hC hnm
  obtain ⟨Q, hQ⟩ : ∃ Q, Q = MQ below (px_Q E (px_v L (fun f' => f' = va_up f b (aJ E 21 (lw x)))) A) [.ref a, .ref b].toArray s (px_rm 1 30).cells (px_rm 1 30).slots A := ⟨_, rfl⟩
  rw [← hQ]
  refine px_aload_n hC 0 rfl dX1_copy_0 ?_
  refine px_iconst (v := nI 0) hC (by decide) dX1_copy_1 ?_
  refine px_aload_n hC 1 rfl dX1_copy_2 ?_
  refine px_iconst (v := nI 0) hC (by decide) dX1_copy_3 ?_
  refine px_bipush (v := nI 21) hC (by decide) dX1_copy_4 ?_
  refine px_copyl hC hf hg (by decide +kernel) (by decide +kernel) (by decide +kernel) (by decide +kernel) (by decide) (by decide) (by decide) (by decide) (by decide) (by decide +kernel) dX1_copy_6 ?_
  refine px_rowJ (r' := lw x) (fun i hi => by rw [pk_cpy_in (by omega) (by omega)]; congr 1; omega) ?_
  subst hQ
  exact px_vret hC rfl (⟨rfl, rfl, rfl⟩) dX1_copy_9
theorem c_subS (l : Launch) (E : px_E) (L : List Nat) (f : Nat → va_E) (t b st fac w : Nat) (tx nx : Nat → Nat) (hf : px_at L f t (aJ E 21 (lw tx))) (hg : px_at L f b (aJ E 21 (lw nx))) (hne : b ≠ t) (h1 : st ≤ w) (h2 : w ≤ 21) (hfac : fac < 4294967296) (ht : dg tx) (hn : dg nx) : px_M l yX1_subtractScaled wsX1_subtractScaled (px_rm 0 0) E L f [.ref t, .int (nI st), .long (lN fac), .ref b, .int (nI w)] (px_v L (fun f' => ∃ y, dg y ∧ (∀ i, i < st ∨ w ≤ i → y i = tx i) ∧ (∃ k, vl 4294967296 y w + fac * 4294967296 ^ st * vl 4294967296 nx (w - st) = vl 4294967296 tx w + k * 4294967296 ^ w) ∧ f' = va_up f t (aJ E 21 (lw y)))) := by
  refine px_M.of (cc := cX1_subtractScaled) (maxL := 13) (ret := none) (lv := [(0, .ref t), (1, .int (nI st)), (2, .long (lN fac)), (4, .ref b), (5, .int (nI w))]) (by decide) rfl (Nat.le_of_ble_eq_true rfl) rfl ?_
  intro p e s m below meth c A hC hnm
  obtain ⟨Q, hQ⟩ : ∃ Q, Q = MQ below (px_Q E (px_v L (fun f' => ∃ y, dg y ∧ (∀ i, i < st ∨ w ≤ i → y i = tx i) ∧ (∃ k, vl 4294967296 y w + fac * 4294967296 ^ st * vl 4294967296 nx (w - st) = vl 4294967296 tx w + k * 4294967296 ^ w) ∧ f' = va_up f t (aJ E 21 (lw y)))) A) [.ref t, .int (nI st), .long (lN fac), .ref b, .int (nI w)].toArray s (px_rm 0 0).cells (px_rm 0 0).slots A := ⟨_, rfl⟩
  rw [← hQ]
  have loop : ∀ (d i br : Nat) (y : Nat → Nat), i + d = w → st ≤ i → br < 4294967296 → dg y → (∀ j, j < st ∨ i ≤ j → y j = tx j) → vl 4294967296 y i + fac * 4294967296 ^ st * vl 4294967296 nx (i - st) = vl 4294967296 tx i + br * 4294967296 ^ i → px p l e (px_rm 0 0) s m [.ref t, .int (nI st), .long (lN fac), .ref b, .int (nI w)].toArray below meth c 13 E A s.heap L (va_up f t (aJ E 21 (lw y))) 0 0 Q 6 [(0, .ref t), (1, .int (nI st)), (2, .long (lN fac)), (4, .ref b), (5, .int (nI w)), (6, .long (lN br)), (8, .int (nI i))] [] := by
    intro d
    induction d with
    | zero =>
      intro i br y hi hst hbr hy hk hv
      refine px_iload hC 6 rfl dX1_subtractScaled_6 ?_
      refine px_iload hC 4 rfl dX1_subtractScaled_8 ?_
      refine px_icmp_ge hC 69 dX1_subtractScaled_10 (by decide) (fun _ => ?_) (fun q9 => (q9 (nI_le (by omega) (by omega))).elim)
      have e : i = w := by omega
      subst e
      subst hQ
      exact px_vret hC rfl (⟨rfl, rfl, y, hy, hk, ⟨br, hv⟩, rfl⟩) dX1_subtractScaled_69
    | succ d ih =>
      intro i br y hi hst hbr hy hk hv
      have hyi := hy i (by omega)
      have hni := hn (i - st) (by omega)
      have hp := ss_part hfac hni hbr
      have hpm : fac * nx (i - st) ≤ 4294967295 * 4294967295 := Nat.mul_le_mul (by omega) (by omega)
      have hkey := ss_key (P := fac * nx (i - st) + br) (yv := y i) (by omega) hyi
      refine px_iload hC 6 rfl dX1_subtractScaled_6 ?_
      refine px_iload hC 4 rfl dX1_subtractScaled_8 ?_
      refine px_icmp_ge hC 69 dX1_subtractScaled_10 (by decide) (fun q9 => ((nI_ge (by omega) (by omega)) q9).elim) (fun _ => ?_)
      refine px_lload_n hC 2 rfl dX1_subtractScaled_13 ?_
      refine px_aload hC 3 rfl dX1_subtractScaled_14 ?_
      refine px_iload hC 6 rfl dX1_subtractScaled_16 ?_
      refine px_iload_n hC 1 rfl dX1_subtractScaled_18 ?_
      refine px_isub hC dX1_subtractScaled_19 ?_
      refine px_ei (y := nI (i - st)) (pk_sub hst) ?_
      refine px_lald hC (hg.up hne) (by omega) (by first | decide | assumption | omega) dX1_subtractScaled_20 ?_
      refine px_lmul hC dX1_subtractScaled_21 ?_
      refine px_lload hC 5 rfl dX1_subtractScaled_22 ?_
      refine px_ladd hC dX1_subtractScaled_24 ?_
      refine px_el (y := lN (fac * nx (i - st) + br)) (by show lN fac * lN (nx (i - st)) + lN br = _; rw [lN_mul, lN_add]) ?_
      generalize hP : fac * nx (i - st) + br = P at hp hkey ⊢
      refine px_lstore (lv' := [(0, .ref t), (1, .int (nI st)), (2, .long (lN fac)), (4, .ref b), (5, .int (nI w)), (6, .long (lN br)), (8, .int (nI i)), (9, .long (lN (P)))]) hC [1, 2, 3, 4, 5, 6, 7, 0] dX1_subtractScaled_25 (by decide) rfl ?_
      refine px_aload_n hC 0 rfl dX1_subtractScaled_27 ?_
      refine px_iload hC 6 rfl dX1_subtractScaled_28 ?_
      refine px_lald hC hf.self (by omega) (by first | decide | assumption | omega) dX1_subtractScaled_30 ?_
      refine px_lload hC 7 rfl dX1_subtractScaled_31 ?_
      refine px_ldc2 (v := 4294967295) hC dX1_subtractScaled_33 (by decide +kernel) ?_
      refine px_el (y := lN 4294967295) (by decide) ?_
      refine px_land hC dX1_subtractScaled_36 ?_
      refine px_el (y := lN (P % 4294967296)) (wb_mask (k := 32) hp (by decide)) ?_
      refine px_lsub hC dX1_subtractScaled_37 ?_
      refine px_el (y := lN ((y i + 18446744073709551616 - P % 4294967296) % 18446744073709551616)) (by show lN (y i) - lN (P % 4294967296) = _; rw [lz_sub (by omega), wb_mod]) ?_
      generalize hR : (y i + 18446744073709551616 - P % 4294967296) % 18446744073709551616 = rst at hkey ⊢
      have hrst : rst < 2 ^ 64 := by omega
      refine px_lstore (lv' := [(0, .ref t), (1, .int (nI st)), (2, .long (lN fac)), (4, .ref b), (5, .int (nI w)), (6, .long (lN br)), (8, .int (nI i)), (9, .long (lN (P))), (11, .long (lN (rst)))]) hC [1, 2, 3, 4, 5, 6, 7, 8, 0] dX1_subtractScaled_38 (by decide) rfl ?_
      refine px_aload_n hC 0 rfl dX1_subtractScaled_40 ?_
      refine px_iload hC 6 rfl dX1_subtractScaled_41 ?_
      refine px_lload hC 8 rfl dX1_subtractScaled_43 ?_
      refine px_ldc2 (v := 4294967295) hC dX1_subtractScaled_45 (by decide +kernel) ?_
      refine px_el (y := lN 4294967295) (by decide) ?_
      refine px_land hC dX1_subtractScaled_48 ?_
      refine px_el (y := lN (rst % 4294967296)) (wb_mask (k := 32) hrst (by decide)) ?_
      refine px_last hC hf.self (by omega) (by first | decide | assumption | omega) dX1_subtractScaled_49 ?_
      rw [px_uu, lw_up]
      refine px_lload hC 7 rfl dX1_subtractScaled_50 ?_
      refine px_bipush (v := nI 32) hC (by decide) dX1_subtractScaled_52 ?_
      refine px_lushr hC dX1_subtractScaled_54 ?_
      refine px_el (y := lN (P / 2 ^ 32)) (wb_shr hp (by decide)) ?_
      refine px_lload hC 8 rfl dX1_subtractScaled_55 ?_
      refine px_bipush (v := nI 63) hC (by decide) dX1_subtractScaled_57 ?_
      refine px_lushr hC dX1_subtractScaled_59 ?_
      refine px_el (y := lN (rst / 2 ^ 63)) (wb_shr hrst (by decide)) ?_
      refine px_ladd hC dX1_subtractScaled_60 ?_
      refine px_el (y := lN (P / 2 ^ 32 + rst / 2 ^ 63)) (lN_add _ _) ?_
      refine px_lstore (lv' := [(0, .ref t), (1, .int (nI st)), (2, .long (lN fac)), (4, .ref b), (5, .int (nI w)), (6, .long (lN (P / 2 ^ 32 + rst / 2 ^ 63))), (8, .int (nI i)), (9, .long (lN (P))), (11, .long (lN (rst)))]) hC [1, 2, 3, 4, 5, 0, 6, 7, 8] dX1_subtractScaled_61 (by decide) rfl ?_
      refine px_iinc (v := nI (i + 1)) (lv' := [(0, .ref t), (1, .int (nI st)), (2, .long (lN fac)), (4, .ref b), (5, .int (nI w)), (6, .long (lN (P / 2 ^ 32 + rst / 2 ^ 63))), (8, .int (nI (i + 1))), (9, .long (lN (P))), (11, .long (lN (rst)))]) hC 6 [1, 2, 3, 4, 5, 6, 0, 7, 8] dX1_subtractScaled_63 rfl (nI_1 i) (by decide) rfl ?_
      refine px_goto hC 6 dX1_subtractScaled_66 (by decide) ?_
      refine px_lv (lv2 := [(0, .ref t), (1, .int (nI st)), (2, .long (lN fac)), (4, .ref b), (5, .int (nI w)), (6, .long (lN (P / 2 ^ 32 + rst / 2 ^ 63))), (8, .int (nI (i + 1)))]) [0, 1, 2, 3, 4, 5, 6] rfl ?_
      have hz : rst % 4294967296 < 4294967296 := Nat.mod_lt _ (by decide)
      refine ih (i + 1) _ (un y i (rst % 4294967296)) (by omega) (by omega) hkey.2 (dg_un hy hz) (fun j hj => ?_) ?_
      · rw [un_n _ _ (by omega)]
        exact hk j (by omega)
      · show vl 4294967296 (un y i (rst % 4294967296)) i + un y i (rst % 4294967296) i * 4294967296 ^ i + fac * 4294967296 ^ st * vl 4294967296 nx (i + 1 - st) = vl 4294967296 tx i + tx i * 4294967296 ^ i + _
        rw [vl_ug (Nat.le_refl i), un_s, show i + 1 - st = (i - st) + 1 by omega, ← hk i (Or.inr (Nat.le_refl i))]
        exact ss_inv hst hv (by rw [hP]; exact hkey.1)
  refine px_lconst (v := lN 0) hC (by decide) dX1_subtractScaled_0 ?_
  refine px_lstore (lv' := [(0, .ref t), (1, .int (nI st)), (2, .long (lN fac)), (4, .ref b), (5, .int (nI w)), (6, .long (lN 0))]) hC [1, 2, 3, 4, 5, 0] dX1_subtractScaled_1 (by decide) rfl ?_
  refine px_iload_n hC 1 rfl dX1_subtractScaled_3 ?_
  refine px_istore (lv' := [(0, .ref t), (1, .int (nI st)), (2, .long (lN fac)), (4, .ref b), (5, .int (nI w)), (6, .long (lN 0)), (8, .int (nI st))]) hC [1, 2, 3, 4, 5, 6, 0] dX1_subtractScaled_4 (by decide) rfl ?_
  have h0 := loop (w - st) st 0 tx (by omega) (Nat.le_refl st) (by decide) ht (fun j _ => rfl) (by rw [Nat.sub_self]; simp [vl])
  rw [px_us hf.2] at h0
  exact h0
