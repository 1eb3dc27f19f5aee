/-! ===== the reference's numbers ===== -/
abbrev gF (pa : Nat) (n mi : Int32) (vv : Int64) : List Value := [.ref pa, .int n, .int mi, .long vv]
def gS (E : px_E) (L : List Nat) (f : Nat → va_E) (g pa n mi : Nat) (x : Nat → Nat) (vv : Int64) : Prop := px_at L f g (.inr (3, gF pa (nI n) (nI mi) vv)) ∧ px_at L f pa (aI E 40 (iw x))
/-- n limbs of 28 bits, none too many, and a sign: the whole number v -/
def gC (n mi : Nat) (x : Nat → Nat) (v : Int) : Prop := n ≤ 40 ∧ (∀ i, i < n → x i < 268435456) ∧ (n ≠ 0 → x (n - 1) ≠ 0) ∧ mi < 2 ∧ v.natAbs = vl 268435456 x n ∧ (mi = 1 ↔ v < 0)
def gR (E : px_E) (L : List Nat) (f : Nat → va_E) (g pa : Nat) (v : Int) : Prop := ∃ n mi x vv, gS E L f g pa n mi x vv ∧ gC n mi x v
theorem gS.fr {E : px_E} {L : List Nat} {f h : Nat → va_E} {g pa n mi : Nat} {x : Nat → Nat} {vv : Int64} (hS : gS E L f g pa n mi x vv) (h1 : h g = f g) (h2 : h pa = f pa) : gS E L h g pa n mi x vv := ⟨hS.1.fr h1, hS.2.fr h2⟩
theorem gR.fr {E : px_E} {L : List Nat} {f h : Nat → va_E} {g pa : Nat} {v : Int} (hR : gR E L f g pa v) (h1 : h g = f g) (h2 : h pa = f pa) : gR E L h g pa v := by
  obtain ⟨n, mi, x, vv, hS, hC⟩ := hR
  exact ⟨n, mi, x, vv, hS.fr h1 h2, hC⟩
theorem gS.ne {E : px_E} {L : List Nat} {f : Nat → va_E} {g pa n mi : Nat} {x : Nat → Nat} {vv : Int64} (hS : gS E L f g pa n mi x vv) : g ≠ pa := hS.1.nk hS.2 rfl
theorem gC_top {n : Nat} {x : Nat → Nat} (h : n ≠ 0 → x (n - 1) ≠ 0) (hn : n ≠ 0) : 268435456 ^ (n - 1) ≤ vl 268435456 x n := by
  have h1 := vl_ge (B := 268435456) (x := x) (n := n) (i := n - 1) (by omega)
  have h2 : 1 * 268435456 ^ (n - 1) ≤ x (n - 1) * 268435456 ^ (n - 1) := Nat.mul_le_mul_right _ (Nat.pos_of_ne_zero (h hn))
  omega
theorem gC_len {n k : Nat} {x : Nat → Nat} (h : n ≠ 0 → x (n - 1) ≠ 0) (hv : vl 268435456 x n < 268435456 ^ k) : n ≤ k := by
  rcases Nat.lt_or_ge k n with q | q
  · have h1 := gC_top h (by omega)
    have h2 : 268435456 ^ k ≤ 268435456 ^ (n - 1) := Nat.pow_le_pow_right (by decide) (by omega)
    omega
  · exact q
theorem gC_0 {n mi : Nat} {x : Nat → Nat} {v : Int} (h : gC n mi x v) : n = 0 ↔ v = 0 := by
  obtain ⟨h1, h2, h3, h4, h5, h6⟩ := h
  constructor
  · intro q; subst q
    have : v.natAbs = 0 := h5
    omega
  · intro q; subst q
    rcases Nat.eq_zero_or_pos n with r | r
    · exact r
    · have h7 := gC_top h3 (by omega)
      have h8 : 0 < 268435456 ^ (n - 1) := Nat.pow_pos (by decide)
      have h9 : (0 : Nat) = vl 268435456 x n := h5
      omega
theorem c28 {i : Nat} {x : Nat → Nat} {n : Nat} (h : ∀ i, i < n → x i < 268435456) (hi : i < n) : x i < 2 ^ 31 := by
  have := h i hi
  omega
theorem flX4_isZero_15 : Cond.fieldLink RX4 15 "RowReductionModel$Great" "n" "I" ∈ wsX4_isZero := by decide +kernel
theorem kkX4_isZero_X4 : ∀ w ∈ wsX40, w ∈ wsX4_isZero := fun _ h => List.mem_cons_of_mem _ (List.mem_append_right _ h)
theorem flX4_trim_15 : Cond.fieldLink RX4 15 "RowReductionModel$Great" "n" "I" ∈ wsX4_trim := by decide +kernel
theorem kkX4_trim_X4 : ∀ w ∈ wsX40, w ∈ wsX4_trim := fun _ h => List.mem_cons_of_mem _ (List.mem_append_right _ h)
theorem flX4_trim_19 : Cond.fieldLink RX4 19 "RowReductionModel$Great" "minus" "Z" ∈ wsX4_trim := by decide +kernel
theorem flX4_trim_9 : Cond.fieldLink RX4 9 "RowReductionModel$Great" "parts" "[I" ∈ wsX4_trim := by decide +kernel
theorem flX4_compare_15 : Cond.fieldLink RX4 15 "RowReductionModel$Great" "n" "I" ∈ wsX4_compare := by decide +kernel
theorem kkX4_compare_X4 : ∀ w ∈ wsX40, w ∈ wsX4_compare := fun _ h => List.mem_cons_of_mem _ (List.mem_append_right _ h)
theorem flX4_compare_9 : Cond.fieldLink RX4 9 "RowReductionModel$Great" "parts" "[I" ∈ wsX4_compare := by decide +kernel
theorem flX4_set__15 : Cond.fieldLink RX4 15 "RowReductionModel$Great" "n" "I" ∈ wsX4_set_ := by decide +kernel
theorem kkX4_set__X4 : ∀ w ∈ wsX40, w ∈ wsX4_set_ := fun _ h => List.mem_cons_of_mem _ (List.mem_append_right _ h)
theorem flX4_set__9 : Cond.fieldLink RX4 9 "RowReductionModel$Great" "parts" "[I" ∈ wsX4_set_ := by decide +kernel
theorem flX4_set__19 : Cond.fieldLink RX4 19 "RowReductionModel$Great" "minus" "Z" ∈ wsX4_set_ := by decide +kernel
theorem c_gZero (l : Launch) (E : px_E) (L : List Nat) (f : Nat → va_E) (g pa n mi : Nat) (x : Nat → Nat) (vv : Int64) (hS : gS E L f g pa n mi x vv) (hn : n ≤ 40) : px_M l yX4_isZero wsX4_isZero (px_rm 0 0) E L f [.ref g] (px_i L (fun z f' => f' = f ∧ ((z = nI 1 ∧ n = 0) ∨ (z = nI 0 ∧ n ≠ 0)))) := by
  refine px_M.of (cc := cX4_isZero) (maxL := 1) (ret := (some .boolean)) (lv := [(0, .ref g)]) (by decide) rfl (Nat.le_of_ble_eq_true rfl) rfl ?_
  intro p e s m below meth c A hC hnm
  obtain ⟨Q, hQ⟩ : ∃ Q, Q = MQ below (px_Q E (px_i L (fun z f' => f' = f ∧ ((z = nI 1 ∧ n = 0) ∨ (z = nI 0 ∧ n ≠ 0)))) A) [.ref g].toArray s (px_rm 0 0).cells (px_rm 0 0).slots A := ⟨_, rfl⟩
  rw [← hQ]
  refine px_aload_n hC 0 rfl dX4_isZero_0 ?_
  refine px_get (C := RX4) (T := TX4) (N := 4) hC hS.1 rfl kkX4_isZero_X4 1 (by decide) flX4_isZero_15 rfl dX4_isZero_1 ?_
  by_cases h : n = 0
  · refine px_if_ne hC 11 dX4_isZero_4 (by decide) (fun q9 => (q9 (by rw [h]; rfl)).elim) (fun _ => ?_)
    refine px_iconst (v := nI 1) hC (by decide) dX4_isZero_7 ?_
    refine px_goto hC 12 dX4_isZero_8 (by decide) ?_
    subst hQ
    exact px_zret hC rfl (by decide) (⟨_, rfl, rfl, rfl, Or.inl ⟨rfl, h⟩⟩) dX4_isZero_12
  · refine px_if_ne hC 11 dX4_isZero_4 (by decide) (fun _ => ?_) (fun q9 => absurd q9 (nI_ne0 (by omega) (by omega)))
    refine px_iconst (v := nI 0) hC (by decide) dX4_isZero_11 ?_
    subst hQ
    exact px_zret hC rfl (by decide) (⟨_, rfl, rfl, rfl, Or.inr ⟨rfl, h⟩⟩) dX4_isZero_12
theorem c_trim (l : Launch) (E : px_E) (L : List Nat) (f : Nat → va_E) (g pa to mi : Nat) (n0 : Int32) (x : Nat → Nat) (vv : Int64) (h1 : px_at L f g (.inr (3, gF pa n0 (nI mi) vv))) (h2 : px_at L f pa (aI E 40 (iw x))) (hto : to ≤ 40) (hx : ∀ i, i < to → x i < 268435456) : px_M l yX4_trim wsX4_trim (px_rm 0 0) E L f [.ref g, .int (nI to)] (px_v L (fun f' => ∃ n', n' ≤ to ∧ vl 268435456 x n' = vl 268435456 x to ∧ (n' ≠ 0 → x (n' - 1) ≠ 0) ∧ f' = va_up f g (.inr (3, gF pa (nI n') (nI (if n' = 0 then 0 else mi)) vv)))) := by
  refine px_M.of (cc := cX4_trim) (maxL := 2) (ret := none) (lv := [(0, .ref g), (1, .int (nI to))]) (by decide) rfl (Nat.le_of_ble_eq_true rfl) rfl ?_
  intro p e s m below meth c A hC hnm
  obtain ⟨Q, hQ⟩ : ∃ Q, Q = MQ below (px_Q E (px_v L (fun f' => ∃ n', n' ≤ to ∧ vl 268435456 x n' = vl 268435456 x to ∧ (n' ≠ 0 → x (n' - 1) ≠ 0) ∧ f' = va_up f g (.inr (3, gF pa (nI n') (nI (if n' = 0 then 0 else mi)) vv)))) A) [.ref g, .int (nI to)].toArray s (px_rm 0 0).cells (px_rm 0 0).slots A := ⟨_, rfl⟩
  rw [← hQ]
  have hgp : pa ≠ g := fun h => h1.nk h2 rfl h.symm
  have last : ∀ k, k ≤ to → vl 268435456 x k = vl 268435456 x to → (k ≠ 0 → x (k - 1) ≠ 0) → px p l e (px_rm 0 0) s m [.ref g, .int (nI to)].toArray below meth c 2 E A s.heap L (va_up f g (.inr (3, gF pa (nI k) (nI mi) vv))) 0 0 Q 39 [(0, .ref g), (1, .int (nI to))] [] := by
    intro k hk hv hz
    refine px_aload_n hC 0 rfl dX4_trim_39 ?_
    refine px_get (C := RX4) (T := TX4) (N := 4) hC h1.self rfl kkX4_trim_X4 1 (by decide) flX4_trim_15 rfl dX4_trim_40 ?_
    by_cases h : k = 0
    · subst h
      refine px_if_ne hC 51 dX4_trim_43 (by decide) (fun q9 => (q9 (rfl)).elim) (fun _ => ?_)
      refine px_aload_n hC 0 rfl dX4_trim_46 ?_
      refine px_iconst (v := nI 0) hC (by decide) dX4_trim_47 ?_
      refine px_put (C := RX4) (T := TX4) (N := 4) (fs' := gF pa (nI 0) (nI 0) vv) hC h1.self rfl kkX4_trim_X4 2 (by decide) tyX4 tyX4_ok nmX4 flX4_trim_19 rfl (by decide) (by decide) (Nat.le_of_ble_eq_true rfl) rfl dX4_trim_48 ?_
      rw [px_uu]
      subst hQ
      exact px_vret hC rfl (⟨rfl, rfl, 0, hk, hv, hz, rfl⟩) dX4_trim_51
    · refine px_if_ne hC 51 dX4_trim_43 (by decide) (fun _ => ?_) (fun q9 => absurd q9 (nI_ne0 (by omega) (by omega)))
      subst hQ
      exact px_vret hC rfl (⟨rfl, rfl, k, hk, hv, hz, by rw [if_neg h]⟩) dX4_trim_51
  have loop : ∀ k, k ≤ to → vl 268435456 x k = vl 268435456 x to → px p l e (px_rm 0 0) s m [.ref g, .int (nI to)].toArray below meth c 2 E A s.heap L (va_up f g (.inr (3, gF pa (nI k) (nI mi) vv))) 0 0 Q 5 [(0, .ref g), (1, .int (nI to))] [] := by
    intro k
    induction k with
    | zero =>
      intro hk hv
      refine px_aload_n hC 0 rfl dX4_trim_5 ?_
      refine px_get (C := RX4) (T := TX4) (N := 4) hC h1.self rfl kkX4_trim_X4 1 (by decide) flX4_trim_15 rfl dX4_trim_6 ?_
      refine px_if_le hC 39 dX4_trim_9 (by decide) (fun _ => ?_) (fun q9 => (q9 (by decide)).elim)
      exact last 0 hk hv (fun h => absurd rfl h)
    | succ k ih =>
      intro hk hv
      have hxk := hx k (by omega)
      refine px_aload_n hC 0 rfl dX4_trim_5 ?_
      refine px_get (C := RX4) (T := TX4) (N := 4) hC h1.self rfl kkX4_trim_X4 1 (by decide) flX4_trim_15 rfl dX4_trim_6 ?_
      refine px_if_le hC 39 dX4_trim_9 (by decide) (fun q9 => absurd q9 (nI_nle (by omega) (by omega))) (fun _ => ?_)
      refine px_aload_n hC 0 rfl dX4_trim_12 ?_
      refine px_get (C := RX4) (T := TX4) (N := 4) hC h1.self rfl kkX4_trim_X4 0 (by decide) flX4_trim_9 rfl dX4_trim_13 ?_
      refine px_aload_n hC 0 rfl dX4_trim_16 ?_
      refine px_get (C := RX4) (T := TX4) (N := 4) hC h1.self rfl kkX4_trim_X4 1 (by decide) flX4_trim_15 rfl dX4_trim_17 ?_
      refine px_iconst (v := nI 1) hC (by decide) dX4_trim_20 ?_
      refine px_isub hC dX4_trim_21 ?_
      refine px_ei (y := nI k) (nI_pred k) ?_
      refine px_iald hC (h2.up hgp) (by omega) (by first | decide | assumption | omega) dX4_trim_22 ?_
      by_cases h : x k = 0
      · refine px_if_ne hC 39 dX4_trim_23 (by decide) (fun q9 => (q9 (by show nI (x k) = 0; rw [h]; rfl)).elim) (fun _ => ?_)
        refine px_aload_n hC 0 rfl dX4_trim_26 ?_
        refine px_dup hC rfl dX4_trim_27 ?_
        refine px_get (C := RX4) (T := TX4) (N := 4) hC h1.self rfl kkX4_trim_X4 1 (by decide) flX4_trim_15 rfl dX4_trim_28 ?_
        refine px_iconst (v := nI 1) hC (by decide) dX4_trim_31 ?_
        refine px_isub hC dX4_trim_32 ?_
        refine px_ei (y := nI k) (nI_pred k) ?_
        refine px_put (C := RX4) (T := TX4) (N := 4) (fs' := gF pa (nI k) (nI mi) vv) hC h1.self rfl kkX4_trim_X4 1 (by decide) tyX4 tyX4_ok nmX4 flX4_trim_15 rfl rfl rfl (Nat.le_of_ble_eq_true rfl) rfl dX4_trim_33 ?_
        rw [px_uu]
        refine px_goto hC 5 dX4_trim_36 (by decide) ?_
        exact ih (by omega) (by rw [← hv]; show vl 268435456 x k = vl 268435456 x k + x k * 268435456 ^ k; rw [h]; omega)
      · refine px_if_ne hC 39 dX4_trim_23 (by decide) (fun _ => ?_) (fun q9 => absurd q9 (nI_ne0 (n := x k) (by omega) (by omega)))
        exact last (k + 1) hk hv (fun _ => h)
  refine px_aload_n hC 0 rfl dX4_trim_0 ?_
  refine px_iload_n hC 1 rfl dX4_trim_1 ?_
  refine px_put (C := RX4) (T := TX4) (N := 4) (fs' := gF pa (nI to) (nI mi) vv) hC h1 rfl kkX4_trim_X4 1 (by decide) tyX4 tyX4_ok nmX4 flX4_trim_15 rfl rfl rfl (Nat.le_of_ble_eq_true rfl) rfl dX4_trim_2 ?_
  exact loop to (Nat.le_refl to) rfl
theorem c_gCmp (l : Launch) (E : px_E) (L : List Nat) (f : Nat → va_E) (g pa g2 pa2 n mi n2 mi2 : Nat) (x y : Nat → Nat) (vv vv2 : Int64) (hS : gS E L f g pa n mi x vv) (hT : gS E L f g2 pa2 n2 mi2 y vv2) (hn : n ≤ 40) (hn2 : n2 ≤ 40) (hx : ∀ i, i < n → x i < 268435456) (hy : ∀ i, i < n2 → y i < 268435456) (tx : n ≠ 0 → x (n - 1) ≠ 0) (ty : n2 ≠ 0 → y (n2 - 1) ≠ 0) : px_M l yX4_compare wsX4_compare (px_rm 0 0) E L f [.ref g, .ref g2] (px_i L (fun z f' => f' = f ∧ ((z = nI 0 ∧ vl 268435456 x n = vl 268435456 y n2) ∨ (z = nI 1 ∧ vl 268435456 y n2 < vl 268435456 x n) ∨ (z = (-1) ∧ vl 268435456 x n < vl 268435456 y n2)))) := by
  refine px_M.of (cc := cX4_compare) (maxL := 3) (ret := (some .int)) (lv := [(0, .ref g), (1, .ref g2)]) (by decide) rfl (Nat.le_of_ble_eq_true rfl) rfl ?_
  intro p e s m below meth c A hC hnm
  obtain ⟨Q, hQ⟩ : ∃ Q, Q = MQ below (px_Q E (px_i L (fun z f' => f' = f ∧ ((z = nI 0 ∧ vl 268435456 x n = vl 268435456 y n2) ∨ (z = nI 1 ∧ vl 268435456 y n2 < vl 268435456 x n) ∨ (z = (-1) ∧ vl 268435456 x n < vl 268435456 y n2)))) A) [.ref g, .ref g2].toArray s (px_rm 0 0).cells (px_rm 0 0).slots A := ⟨_, rfl⟩
  rw [← hQ]
  have small : ∀ {a b : Nat} {u w : Nat → Nat}, (∀ i, i < a → u i < 268435456) → (b ≠ 0 → w (b - 1) ≠ 0) → a < b → vl 268435456 u a < vl 268435456 w b := fun {a b u w} h1 h2 h3 => by
    have q1 := vl_lt h1
    have q2 := gC_top h2 (by omega)
    have q3 : 268435456 ^ a ≤ 268435456 ^ (b - 1) := Nat.pow_le_pow_right (by decide) (by omega)
    omega
  refine px_aload_n hC 0 rfl dX4_compare_0 ?_
  refine px_get (C := RX4) (T := TX4) (N := 4) hC hS.1 rfl kkX4_compare_X4 1 (by decide) flX4_compare_15 rfl dX4_compare_1 ?_
  refine px_aload_n hC 1 rfl dX4_compare_4 ?_
  refine px_get (C := RX4) (T := TX4) (N := 4) hC hT.1 rfl kkX4_compare_X4 1 (by decide) flX4_compare_15 rfl dX4_compare_5 ?_
  by_cases h : n = n2
  · subst h
    refine px_icmp_eq hC 28 dX4_compare_8 (by decide) (fun _ => ?_) (fun q9 => (q9 (rfl)).elim)
    have loop : ∀ (d : Nat), d ≤ n → (∀ j, d ≤ j → j < n → x j = y j) → px p l e (px_rm 0 0) s m [.ref g, .ref g2].toArray below meth c 3 E A s.heap L (f) 0 0 Q 35 [(0, .ref g), (1, .ref g2), (2, .int (nI d - nI 1))] [] := by
      intro d
      induction d with
      | zero =>
        intro hd he
        refine px_iload_n hC 2 rfl dX4_compare_35 ?_
        refine px_if_lt hC 81 dX4_compare_36 (by decide) (fun _ => ?_) (fun q9 => (q9 (by decide)).elim)
        refine px_iconst (v := nI 0) hC (by decide) dX4_compare_81 ?_
        subst hQ
        exact px_iret hC rfl (⟨_, rfl, rfl, rfl, Or.inl ⟨rfl, vl_c (fun j hj => he j (by omega) hj)⟩⟩) dX4_compare_82
      | succ d ih =>
        intro hd he
        rw [show nI (d + 1) - nI 1 = nI d from nI_pred d]
        have hxd := hx d (by omega)
        have hyd := hy d (by omega)
        refine px_iload_n hC 2 rfl dX4_compare_35 ?_
        refine px_if_lt hC 81 dX4_compare_36 (by decide) (fun q9 => absurd q9 (nI_pos (by omega))) (fun _ => ?_)
        refine px_aload_n hC 0 rfl dX4_compare_39 ?_
        refine px_get (C := RX4) (T := TX4) (N := 4) hC hS.1 rfl kkX4_compare_X4 0 (by decide) flX4_compare_9 rfl dX4_compare_40 ?_
        refine px_iload_n hC 2 rfl dX4_compare_43 ?_
        refine px_iald hC hS.2 (by omega) (by first | decide | assumption | omega) dX4_compare_44 ?_
        refine px_aload_n hC 1 rfl dX4_compare_45 ?_
        refine px_get (C := RX4) (T := TX4) (N := 4) hC hT.1 rfl kkX4_compare_X4 0 (by decide) flX4_compare_9 rfl dX4_compare_46 ?_
        refine px_iload_n hC 2 rfl dX4_compare_49 ?_
        refine px_iald hC hT.2 (by omega) (by first | decide | assumption | omega) dX4_compare_50 ?_
        by_cases h : x d = y d
        · refine px_icmp_eq hC 75 dX4_compare_51 (by decide) (fun _ => ?_) (fun q9 => (q9 (by show nI (x d) = nI (y d); rw [h])).elim)
          refine px_iinc (v := (nI d - nI 1)) (lv' := [(0, .ref g), (1, .ref g2), (2, .int (nI d - nI 1))]) hC 2 [1, 2, 0] dX4_compare_75 rfl (by rw [Int32.sub_eq_add_neg]; rfl) (by decide) rfl ?_
          refine px_goto hC 35 dX4_compare_78 (by decide) ?_
          exact ih (by omega) (fun j h1 h2 => by
            by_cases q : j = d
            · subst q; exact h
            · exact he j (by omega) h2)
        · refine px_icmp_eq hC 75 dX4_compare_51 (by decide) (fun q9 => absurd q9 (fun q => h (nI_inj2 (by omega) (by omega) q))) (fun _ => ?_)
          refine px_aload_n hC 0 rfl dX4_compare_54 ?_
          refine px_get (C := RX4) (T := TX4) (N := 4) hC hS.1 rfl kkX4_compare_X4 0 (by decide) flX4_compare_9 rfl dX4_compare_55 ?_
          refine px_iload_n hC 2 rfl dX4_compare_58 ?_
          refine px_iald hC hS.2 (by omega) (by first | decide | assumption | omega) dX4_compare_59 ?_
          refine px_aload_n hC 1 rfl dX4_compare_60 ?_
          refine px_get (C := RX4) (T := TX4) (N := 4) hC hT.1 rfl kkX4_compare_X4 0 (by decide) flX4_compare_9 rfl dX4_compare_61 ?_
          refine px_iload_n hC 2 rfl dX4_compare_64 ?_
          refine px_iald hC hT.2 (by omega) (by first | decide | assumption | omega) dX4_compare_65 ?_
          by_cases h2 : y d ≤ x d
          · refine px_icmp_ge hC 73 dX4_compare_66 (by decide) (fun _ => ?_) (fun q9 => (q9 (nI_le h2 (by omega))).elim)
            refine px_iconst (v := nI 1) hC (by decide) dX4_compare_73 ?_
            subst hQ
            exact px_iret hC rfl (⟨_, rfl, rfl, rfl, Or.inr (Or.inl ⟨rfl, vl_cmp hy hx (by omega) (fun j h3 h4 => (he j h3 h4).symm) (by omega)⟩)⟩) dX4_compare_74
          · refine px_icmp_ge hC 73 dX4_compare_66 (by decide) (fun q9 => absurd q9 (nI_ge (by omega) (by omega))) (fun _ => ?_)
            refine px_iconst (v := (-1)) hC (by decide) dX4_compare_69 ?_
            refine px_goto hC 74 dX4_compare_70 (by decide) ?_
            subst hQ
            exact px_iret hC rfl (⟨_, rfl, rfl, rfl, Or.inr (Or.inr ⟨rfl, vl_cmp hx hy (by omega) (fun j h3 h4 => he j h3 h4) (by omega)⟩)⟩) dX4_compare_74
    refine px_aload_n hC 0 rfl dX4_compare_28 ?_
    refine px_get (C := RX4) (T := TX4) (N := 4) hC hS.1 rfl kkX4_compare_X4 1 (by decide) flX4_compare_15 rfl dX4_compare_29 ?_
    refine px_iconst (v := nI 1) hC (by decide) dX4_compare_32 ?_
    refine px_isub hC dX4_compare_33 ?_
    refine px_istore_n (lv' := [(0, .ref g), (1, .ref g2), (2, .int ((nI n) - nI 1))]) hC [1, 2, 0] dX4_compare_34 (by decide) rfl ?_
    exact loop n (Nat.le_refl n) (fun j h1 h2 => absurd h1 (by omega))
  · refine px_icmp_eq hC 28 dX4_compare_8 (by decide) (fun q9 => absurd q9 (fun q => h (nI_inj2 (by omega) (by omega) q))) (fun _ => ?_)
    refine px_aload_n hC 0 rfl dX4_compare_11 ?_
    refine px_get (C := RX4) (T := TX4) (N := 4) hC hS.1 rfl kkX4_compare_X4 1 (by decide) flX4_compare_15 rfl dX4_compare_12 ?_
    refine px_aload_n hC 1 rfl dX4_compare_15 ?_
    refine px_get (C := RX4) (T := TX4) (N := 4) hC hT.1 rfl kkX4_compare_X4 1 (by decide) flX4_compare_15 rfl dX4_compare_16 ?_
    by_cases h2 : n2 ≤ n
    · refine px_icmp_ge hC 26 dX4_compare_19 (by decide) (fun _ => ?_) (fun q9 => (q9 (nI_le h2 (by omega))).elim)
      refine px_iconst (v := nI 1) hC (by decide) dX4_compare_26 ?_
      subst hQ
      exact px_iret hC rfl (⟨_, rfl, rfl, rfl, Or.inr (Or.inl ⟨rfl, small hy tx (by omega)⟩)⟩) dX4_compare_27
    · refine px_icmp_ge hC 26 dX4_compare_19 (by decide) (fun q9 => absurd q9 (nI_ge (by omega) (by omega))) (fun _ => ?_)
      refine px_iconst (v := (-1)) hC (by decide) dX4_compare_22 ?_
      refine px_goto hC 27 dX4_compare_23 (by decide) ?_
      subst hQ
      exact px_iret hC rfl (⟨_, rfl, rfl, rfl, Or.inr (Or.inr ⟨rfl, small hx ty (by omega)⟩)⟩) dX4_compare_27
theorem c_gSet2 (l : Launch) (E : px_E) (L : List Nat) (f : Nat → va_E) (g pa g2 pa2 n mi n2 mi2 : Nat) (x y : Nat → Nat) (vv vv2 : Int64) (hS : gS E L f g pa n mi x vv) (hT : gS E L f g2 pa2 n2 mi2 y vv2) (hg : g ≠ g2) (hp : pa ≠ pa2) (hn2 : n2 ≤ 40) (hmi : mi2 < 2) : px_M l yX4_set_ wsX4_set_ (px_rm 0 0) E L f [.ref g, .ref g2] (px_v L (fun f' => ∃ u, (∀ i, i < n2 → u i = y i) ∧ f' = va_up (va_up f g (.inr (3, gF pa (nI n2) (nI mi2) vv))) pa (aI E 40 (iw u)))) := by
  refine px_M.of (cc := cX4_set_) (maxL := 3) (ret := none) (lv := [(0, .ref g), (1, .ref g2)]) (by decide) rfl (Nat.le_of_ble_eq_true rfl) rfl ?_
  intro p e s m below meth c A hC hnm
  obtain ⟨Q, hQ⟩ : ∃ Q, Q = MQ below (px_Q E (px_v L (fun f' => ∃ u, (∀ i, i < n2 → u i = y i) ∧ f' = va_up (va_up f g (.inr (3, gF pa (nI n2) (nI mi2) vv))) pa (aI E 40 (iw u)))) A) [.ref g, .ref g2].toArray s (px_rm 0 0).cells (px_rm 0 0).slots A := ⟨_, rfl⟩
  rw [← hQ]
  have n1 := hS.ne
  have n3 : g2 ≠ pa := hT.1.nk hS.2 rfl
  have n4 : pa2 ≠ g := fun h => hS.1.nk hT.2 rfl h.symm
  have loop : ∀ (d i : Nat) (u : Nat → Nat), i + d = n2 → (∀ j, j < i → u j = y j) → px p l e (px_rm 0 0) s m [.ref g, .ref g2].toArray below meth c 3 E A s.heap L (va_up (va_up f g (.inr (3, gF pa (nI n2) (nI mi2) vv))) pa (aI E 40 (iw u))) 0 0 Q 18 [(0, .ref g), (1, .ref g2), (2, .int (nI i))] [] := by
    intro d
    induction d with
    | zero =>
      intro i u hi hu
      have e1 : i = n2 := by omega
      subst e1
      refine px_iload_n hC 2 rfl dX4_set__18 ?_
      refine px_aload_n hC 0 rfl dX4_set__19 ?_
      refine px_get (C := RX4) (T := TX4) (N := 4) hC (hS.1.self.up n1) rfl kkX4_set__X4 1 (by decide) flX4_set__15 rfl dX4_set__20 ?_
      refine px_icmp_ge hC 44 dX4_set__23 (by decide) (fun _ => ?_) (fun q9 => (q9 (nI_le (Nat.le_refl i) (by omega))).elim)
      subst hQ
      exact px_vret hC rfl (⟨rfl, rfl, u, hu, rfl⟩) dX4_set__44
    | succ d ih =>
      intro i u hi hu
      refine px_iload_n hC 2 rfl dX4_set__18 ?_
      refine px_aload_n hC 0 rfl dX4_set__19 ?_
      refine px_get (C := RX4) (T := TX4) (N := 4) hC (hS.1.self.up n1) rfl kkX4_set__X4 1 (by decide) flX4_set__15 rfl dX4_set__20 ?_
      refine px_icmp_ge hC 44 dX4_set__23 (by decide) (fun q9 => absurd q9 (nI_ge (by omega) (by omega))) (fun _ => ?_)
      refine px_aload_n hC 0 rfl dX4_set__26 ?_
      refine px_get (C := RX4) (T := TX4) (N := 4) hC (hS.1.self.up n1) rfl kkX4_set__X4 0 (by decide) flX4_set__9 rfl dX4_set__27 ?_
      refine px_iload_n hC 2 rfl dX4_set__30 ?_
      refine px_aload_n hC 1 rfl dX4_set__31 ?_
      refine px_get (C := RX4) (T := TX4) (N := 4) hC ((hT.1.up (fun h => hg h.symm)).up n3) rfl kkX4_set__X4 0 (by decide) flX4_set__9 rfl dX4_set__32 ?_
      refine px_iload_n hC 2 rfl dX4_set__35 ?_
      refine px_iald hC ((hT.2.up n4).up (fun h => hp h.symm)) (by omega) (by first | decide | assumption | omega) dX4_set__36 ?_
      refine px_iast hC ((hS.2.up (fun h => n1 h.symm)).self) (by omega) (by first | decide | assumption | omega) dX4_set__37 ?_
      rw [px_uu, show upd (iw u) i (iw y i) = iw (un u i (y i)) from iw_up u i (y i)]
      refine px_iinc (v := nI (i + 1)) (lv' := [(0, .ref g), (1, .ref g2), (2, .int (nI (i + 1)))]) hC 2 [1, 2, 0] dX4_set__38 rfl (nI_1 i) (by decide) rfl ?_
      refine px_goto hC 18 dX4_set__41 (by decide) ?_
      refine ih (i + 1) _ (by omega) (fun j hj => ?_)
      by_cases q : j = i
      · subst q; rw [un_s]
      · rw [un_n _ _ q]; exact hu j (by omega)
  refine px_aload_n hC 0 rfl dX4_set__0 ?_
  refine px_aload_n hC 1 rfl dX4_set__1 ?_
  refine px_get (C := RX4) (T := TX4) (N := 4) hC hT.1 rfl kkX4_set__X4 2 (by decide) flX4_set__19 rfl dX4_set__2 ?_
  refine px_put (C := RX4) (T := TX4) (N := 4) (fs' := gF pa (nI n) (nI mi2) vv) hC hS.1 rfl kkX4_set__X4 2 (by decide) tyX4 tyX4_ok nmX4 flX4_set__19 rfl (by rcases (show mi2 = 0 ∨ mi2 = 1 by omega) with rfl | rfl <;> rfl) (by rcases (show mi2 = 0 ∨ mi2 = 1 by omega) with rfl | rfl <;> rfl) (Nat.le_of_ble_eq_true rfl) rfl dX4_set__5 ?_
  refine px_aload_n hC 0 rfl dX4_set__8 ?_
  refine px_aload_n hC 1 rfl dX4_set__9 ?_
  refine px_get (C := RX4) (T := TX4) (N := 4) hC (hT.1.up (fun h => hg h.symm)) rfl kkX4_set__X4 1 (by decide) flX4_set__15 rfl dX4_set__10 ?_
  refine px_put (C := RX4) (T := TX4) (N := 4) (fs' := gF pa (nI n2) (nI mi2) vv) hC hS.1.self rfl kkX4_set__X4 1 (by decide) tyX4 tyX4_ok nmX4 flX4_set__15 rfl rfl rfl (Nat.le_of_ble_eq_true rfl) rfl dX4_set__13 ?_
  rw [px_uu]
  refine px_iconst (v := nI 0) hC (by decide) dX4_set__16 ?_
  refine px_istore_n (lv' := [(0, .ref g), (1, .ref g2), (2, .int (nI 0))]) hC [1, 2, 0] dX4_set__17 (by decide) rfl ?_
  have h0 := loop n2 0 x (by omega) (fun j hj => absurd hj (by omega))
  rw [px_us (hS.2.up (fun h => n1 h.symm)).2] at h0
  exact h0
