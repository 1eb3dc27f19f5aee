/-! ===== RowReduction: its state ===== -/
abbrev xF (sy nm dn el lt : Nat) (sz td : Int32) : List Value := [.ref sy, .ref nm, .ref dn, .ref el, .ref lt, .int sz, .int td]
def fX (rr sy nm dn el lt cs np od wk tp bt ot ob : Nat) (ad0 ra : Nat → Nat) (b : Nat) : Prop := b = rr ∨ b = sy ∨ b = nm ∨ b = dn ∨ eA el cs np od wk ad0 b ∨ b = lt ∨ b = tp ∨ b = bt ∨ b = ot ∨ b = ob ∨ ∃ i, i < 10 ∧ b = ra i
def xG (rr sy nm dn el lt cs np od wk tp bt ot ob : Nat) (ad0 ra : Nat → Nat) : Prop := (∀ i j, i < 10 → j < 10 → ra i = ra j → i = j) ∧ nm ≠ dn ∧ ∀ b, (b = rr ∨ b = sy ∨ b = nm ∨ b = dn ∨ b = lt ∨ b = tp ∨ b = bt ∨ b = ot ∨ b = ob ∨ ∃ i, i < 10 ∧ b = ra i) → ¬ eA el cs np od wk ad0 b
def XS (E : px_E) (L : List Nat) (f : Nat → va_E) (rr sy nm dn el lt cs np od wk tp bt ot ob : Nat) (ad0 ra : Nat → Nat) (n : Nat) (w : Nat → Nat → Int32) (td : Nat) (nu de : Nat → Int64) : Prop := xG rr sy nm dn el lt cs np od wk tp bt ot ob ad0 ra ∧ 1 ≤ n ∧ n ≤ 10 ∧ td < 2 ∧ px_at L f rr (.inr (2, xF sy nm dn el lt (nI n) (nI td))) ∧ (∃ sr : Nat → Option Nat, px_at L f sy (aII E 10 sr) ∧ ∀ i, i < 10 → sr i = some (ra i)) ∧ (∀ i, i < 10 → px_at L f (ra i) (aI E 11 (w i))) ∧ px_at L f nm (aJ E 10 nu) ∧ px_at L f dn (aJ E 10 de) ∧ eOK E L f el cs np od wk ad0 ∧ lOK E L f lt tp bt ot ob
def inb (a b : Int32) (n : Nat) : Prop := ∃ i j, a = nI i ∧ b = nI j ∧ i < n ∧ j ≤ n
def ink (a : Int32) (n : Nat) : Prop := ∃ i, a = nI i ∧ i < n
theorem nI_inj2 {i j : Nat} (hi : i < 2 ^ 31) (hj : j < 2 ^ 31) (h : nI i = nI j) : i = j := (nI_eq hi hj).mp h
theorem flX3_hasNumber_35 : Cond.fieldLink RX3 35 "RowReduction" "size" "I" ∈ wsX3_hasNumber := by decide +kernel
theorem kkX3_hasNumber_X3 : ∀ w ∈ wsX30, w ∈ wsX3_hasNumber := fun _ h => List.mem_cons_of_mem _ (List.mem_append_right _ h)
theorem flX3_isTold_39 : Cond.fieldLink RX3 39 "RowReduction" "told" "Z" ∈ wsX3_isTold := by decide +kernel
theorem kkX3_isTold_X3 : ∀ w ∈ wsX30, w ∈ wsX3_isTold := fun _ h => List.mem_cons_of_mem _ (List.mem_append_right _ h)
theorem flX3_isTold_35 : Cond.fieldLink RX3 35 "RowReduction" "size" "I" ∈ wsX3_isTold := by decide +kernel
theorem flX3_above_14 : Cond.fieldLink RX3 14 "RowReduction" "numerators" "[J" ∈ wsX3_above := by decide +kernel
theorem kkX3_above_X3 : ∀ w ∈ wsX30, w ∈ wsX3_above := fun _ h => List.mem_cons_of_mem _ (List.mem_append_right _ h)
theorem flX3_under_18 : Cond.fieldLink RX3 18 "RowReduction" "denominators" "[J" ∈ wsX3_under := by decide +kernel
theorem kkX3_under_X3 : ∀ w ∈ wsX30, w ∈ wsX3_under := fun _ h => List.mem_cons_of_mem _ (List.mem_append_right _ h)
theorem flX3_get_11 : Cond.fieldLink RX3 11 "RowReduction" "system" "[[I" ∈ wsX3_get := by decide +kernel
theorem kkX3_get_X3 : ∀ w ∈ wsX30, w ∈ wsX3_get := fun _ h => List.mem_cons_of_mem _ (List.mem_append_right _ h)
theorem c_has (l : Launch) (E : px_E) (L : List Nat) (f : Nat → va_E) (rr n : Nat) (a b : Int32) {sy nm dn el lt : Nat} {td : Int32} (hq : px_at L f rr (.inr (2, xF sy nm dn el lt (nI n) td))) (hn : n ≤ 10) : px_M l yX3_hasNumber wsX3_hasNumber (px_rm 0 0) E L f [.ref rr, .int a, .int b] (px_i L (fun z f' => f' = f ∧ ((z = nI 1 ∧ inb a b n) ∨ (z = nI 0 ∧ ¬ inb a b n)))) := by
  refine px_M.of (cc := cX3_hasNumber) (maxL := 3) (ret := (some .boolean)) (lv := [(0, .ref rr), (1, .int a), (2, .int b)]) (by decide) rfl (Nat.le_of_ble_eq_true rfl) rfl ?_
  intro p e s m below meth c A hC hnm
  obtain ⟨Q, hQ⟩ : ∃ Q, Q = MQ below (px_Q E (px_i L (fun z f' => f' = f ∧ ((z = nI 1 ∧ inb a b n) ∨ (z = nI 0 ∧ ¬ inb a b n)))) A) [.ref rr, .int a, .int b].toArray s (px_rm 0 0).cells (px_rm 0 0).slots A := ⟨_, rfl⟩
  rw [← hQ]
  refine px_iload_n hC 1 rfl dX3_hasNumber_0 ?_
  by_cases h1 : a < 0
  · refine px_if_lt hC 28 dX3_hasNumber_1 (by decide) (fun _ => ?_) (fun q9 => (q9 (h1)).elim)
    refine px_iconst (v := nI 0) hC (by decide) dX3_hasNumber_28 ?_
    subst hQ
    exact px_zret hC rfl (by decide) (⟨_, rfl, rfl, rfl, Or.inr ⟨rfl, fun ⟨i, j, e1, _, h, _⟩ => nI_pos (n := i) (by omega) (by rw [← e1]; exact h1)⟩⟩) dX3_hasNumber_29
  · obtain ⟨i, hi, ei⟩ := nI_of h1
    subst ei
    refine px_if_lt hC 28 dX3_hasNumber_1 (by decide) (fun q9 => absurd q9 (h1)) (fun _ => ?_)
    refine px_iload_n hC 1 rfl dX3_hasNumber_4 ?_
    refine px_aload_n hC 0 rfl dX3_hasNumber_5 ?_
    refine px_get (C := RX3) (T := TX3) (N := 7) hC hq rfl kkX3_hasNumber_X3 5 (by decide) flX3_hasNumber_35 rfl dX3_hasNumber_6 ?_
    by_cases h2 : n ≤ i
    · refine px_icmp_ge hC 28 dX3_hasNumber_9 (by decide) (fun _ => ?_) (fun q9 => (q9 (nI_le h2 hi)).elim)
      refine px_iconst (v := nI 0) hC (by decide) dX3_hasNumber_28 ?_
      subst hQ
      exact px_zret hC rfl (by decide) (⟨_, rfl, rfl, rfl, Or.inr ⟨rfl, fun ⟨i', j, e1, _, h, _⟩ => by have := nI_inj2 hi (by omega) e1; omega⟩⟩) dX3_hasNumber_29
    · refine px_icmp_ge hC 28 dX3_hasNumber_9 (by decide) (fun q9 => absurd q9 (nI_ge (by omega) (by omega))) (fun _ => ?_)
      refine px_iload_n hC 2 rfl dX3_hasNumber_12 ?_
      by_cases h3 : b < 0
      · refine px_if_lt hC 28 dX3_hasNumber_13 (by decide) (fun _ => ?_) (fun q9 => (q9 (h3)).elim)
        refine px_iconst (v := nI 0) hC (by decide) dX3_hasNumber_28 ?_
        subst hQ
        exact px_zret hC rfl (by decide) (⟨_, rfl, rfl, rfl, Or.inr ⟨rfl, fun ⟨i', j, _, e2, _, h⟩ => nI_pos (n := j) (by omega) (by rw [← e2]; exact h3)⟩⟩) dX3_hasNumber_29
      · obtain ⟨j, hj, ej⟩ := nI_of h3
        subst ej
        refine px_if_lt hC 28 dX3_hasNumber_13 (by decide) (fun q9 => absurd q9 (h3)) (fun _ => ?_)
        refine px_iload_n hC 2 rfl dX3_hasNumber_16 ?_
        refine px_aload_n hC 0 rfl dX3_hasNumber_17 ?_
        refine px_get (C := RX3) (T := TX3) (N := 7) hC hq rfl kkX3_hasNumber_X3 5 (by decide) flX3_hasNumber_35 rfl dX3_hasNumber_18 ?_
        by_cases h4 : n < j
        · refine px_icmp_gt hC 28 dX3_hasNumber_21 (by decide) (fun _ => ?_) (fun q9 => (q9 (nI_lt h4 hj)).elim)
          refine px_iconst (v := nI 0) hC (by decide) dX3_hasNumber_28 ?_
          subst hQ
          exact px_zret hC rfl (by decide) (⟨_, rfl, rfl, rfl, Or.inr ⟨rfl, fun ⟨i', j', _, e2, _, h⟩ => by have := nI_inj2 hj (by omega) e2; omega⟩⟩) dX3_hasNumber_29
        · refine px_icmp_gt hC 28 dX3_hasNumber_21 (by decide) (fun q9 => absurd q9 (nI_nlt (by omega) (by omega))) (fun _ => ?_)
          refine px_iconst (v := nI 1) hC (by decide) dX3_hasNumber_24 ?_
          refine px_goto hC 29 dX3_hasNumber_25 (by decide) ?_
          subst hQ
          exact px_zret hC rfl (by decide) (⟨_, rfl, rfl, rfl, Or.inl ⟨rfl, i, j, rfl, rfl, by omega, by omega⟩⟩) dX3_hasNumber_29
theorem c_told (l : Launch) (E : px_E) (L : List Nat) (f : Nat → va_E) (rr n td : Nat) (a : Int32) {sy nm dn el lt : Nat} (hq : px_at L f rr (.inr (2, xF sy nm dn el lt (nI n) (nI td)))) (hn : n ≤ 10) (htd : td < 2) : px_M l yX3_isTold wsX3_isTold (px_rm 0 0) E L f [.ref rr, .int a] (px_i L (fun z f' => f' = f ∧ ((z = nI 1 ∧ td = 1 ∧ ink a n) ∨ (z = nI 0 ∧ ¬ (td = 1 ∧ ink a n))))) := by
  refine px_M.of (cc := cX3_isTold) (maxL := 2) (ret := (some .boolean)) (lv := [(0, .ref rr), (1, .int a)]) (by decide) rfl (Nat.le_of_ble_eq_true rfl) rfl ?_
  intro p e s m below meth c A hC hnm
  obtain ⟨Q, hQ⟩ : ∃ Q, Q = MQ below (px_Q E (px_i L (fun z f' => f' = f ∧ ((z = nI 1 ∧ td = 1 ∧ ink a n) ∨ (z = nI 0 ∧ ¬ (td = 1 ∧ ink a n))))) A) [.ref rr, .int a].toArray s (px_rm 0 0).cells (px_rm 0 0).slots A := ⟨_, rfl⟩
  rw [← hQ]
  refine px_aload_n hC 0 rfl dX3_isTold_0 ?_
  refine px_get (C := RX3) (T := TX3) (N := 7) hC hq rfl kkX3_isTold_X3 6 (by decide) flX3_isTold_39 rfl dX3_isTold_1 ?_
  by_cases h0 : td = 0
  · refine px_if_eq hC 23 dX3_isTold_4 (by decide) (fun _ => ?_) (fun q9 => (q9 (by rw [h0]; rfl)).elim)
    refine px_iconst (v := nI 0) hC (by decide) dX3_isTold_23 ?_
    subst hQ
    exact px_zret hC rfl (by decide) (⟨_, rfl, rfl, rfl, Or.inr ⟨rfl, fun h => by omega⟩⟩) dX3_isTold_24
  · refine px_if_eq hC 23 dX3_isTold_4 (by decide) (fun q9 => absurd q9 (nI_ne0 (by omega) (by omega))) (fun _ => ?_)
    refine px_iload_n hC 1 rfl dX3_isTold_7 ?_
    by_cases h1 : a < 0
    · refine px_if_lt hC 23 dX3_isTold_8 (by decide) (fun _ => ?_) (fun q9 => (q9 (h1)).elim)
      refine px_iconst (v := nI 0) hC (by decide) dX3_isTold_23 ?_
      subst hQ
      exact px_zret hC rfl (by decide) (⟨_, rfl, rfl, rfl, Or.inr ⟨rfl, fun ⟨_, i, e1, h⟩ => nI_pos (n := i) (by omega) (by rw [← e1]; exact h1)⟩⟩) dX3_isTold_24
    · obtain ⟨i, hi, ei⟩ := nI_of h1
      subst ei
      refine px_if_lt hC 23 dX3_isTold_8 (by decide) (fun q9 => absurd q9 (h1)) (fun _ => ?_)
      refine px_iload_n hC 1 rfl dX3_isTold_11 ?_
      refine px_aload_n hC 0 rfl dX3_isTold_12 ?_
      refine px_get (C := RX3) (T := TX3) (N := 7) hC hq rfl kkX3_isTold_X3 5 (by decide) flX3_isTold_35 rfl dX3_isTold_13 ?_
      by_cases h2 : n ≤ i
      · refine px_icmp_ge hC 23 dX3_isTold_16 (by decide) (fun _ => ?_) (fun q9 => (q9 (nI_le h2 hi)).elim)
        refine px_iconst (v := nI 0) hC (by decide) dX3_isTold_23 ?_
        subst hQ
        exact px_zret hC rfl (by decide) (⟨_, rfl, rfl, rfl, Or.inr ⟨rfl, fun ⟨_, i', e1, h⟩ => by have := nI_inj2 hi (by omega) e1; omega⟩⟩) dX3_isTold_24
      · refine px_icmp_ge hC 23 dX3_isTold_16 (by decide) (fun q9 => absurd q9 (nI_ge (by omega) (by omega))) (fun _ => ?_)
        refine px_iconst (v := nI 1) hC (by decide) dX3_isTold_19 ?_
        refine px_goto hC 24 dX3_isTold_20 (by decide) ?_
        subst hQ
        exact px_zret hC rfl (by decide) (⟨_, rfl, rfl, rfl, Or.inl ⟨rfl, by omega, i, rfl, by omega⟩⟩) dX3_isTold_24
section XX
variable {E : px_E} {L : List Nat} {f : Nat → va_E} {rr sy nm dn el lt cs np od wk tp bt ot ob : Nat} {ad0 ra : Nat → Nat} {n : Nat} {w : Nat → Nat → Int32} {td : Nat} {nu de : Nat → Int64}
theorem c_above (l : Launch) (a : Int32) (hX : XS E L f rr sy nm dn el lt cs np od wk tp bt ot ob ad0 ra n w td nu de) : px_M l yX3_above wsX3_above (px_rm 1 21) E L f [.ref rr, .int a] (px_l L (fun z f' => f' = f ∧ ((∃ i, td = 1 ∧ a = nI i ∧ i < n ∧ z = nu i) ∨ (¬ (td = 1 ∧ ink a n) ∧ z = lN 0)))) := by
  refine px_M.of (cc := cX3_above) (maxL := 2) (ret := (some .long)) (lv := [(0, .ref rr), (1, .int a)]) (by decide) rfl (Nat.le_of_ble_eq_true rfl) rfl ?_
  intro p e s m below meth c A hC hnm
  obtain ⟨Q, hQ⟩ : ∃ Q, Q = MQ below (px_Q E (px_l L (fun z f' => f' = f ∧ ((∃ i, td = 1 ∧ a = nI i ∧ i < n ∧ z = nu i) ∨ (¬ (td = 1 ∧ ink a n) ∧ z = lN 0)))) A) [.ref rr, .int a].toArray s (px_rm 1 21).cells (px_rm 1 21).slots A := ⟨_, rfl⟩
  rw [← hQ]
  obtain ⟨hG, h1n, hn, htd, hq, hsy, hra, hnm, hdn, hE, hL⟩ := hX
  refine px_aload_n hC 0 rfl dX3_above_0 ?_
  refine px_iload_n hC 1 rfl dX3_above_1 ?_
  refine px_callVi (C := RX3) (T := TX3) (N := 7) (st := []) (nn := 1) hC (c_told l E L f rr n td a hq hn htd) hq rfl gX3_above_X3_isTold rfl (by decide +kernel) (by decide) (Nat.le_of_ble_eq_true rfl) (by decide) rfl rfl dX3_above_2 (fun z f1 hz => ?_)
  obtain ⟨rfl, hz⟩ := hz
  rcases hz with ⟨rfl, h1, i, rfl, hi⟩ | ⟨rfl, h1⟩
  · refine px_if_eq hC 17 dX3_above_5 (by decide) (fun q9 => absurd q9 (by decide)) (fun _ => ?_)
    refine px_aload_n hC 0 rfl dX3_above_8 ?_
    refine px_get (C := RX3) (T := TX3) (N := 7) hC hq rfl kkX3_above_X3 1 (by decide) flX3_above_14 rfl dX3_above_9 ?_
    refine px_iload_n hC 1 rfl dX3_above_12 ?_
    refine px_lald hC hnm (by omega) (by first | decide | assumption | omega) dX3_above_13 ?_
    refine px_goto hC 18 dX3_above_14 (by decide) ?_
    subst hQ
    exact px_lret hC rfl (⟨_, rfl, rfl, rfl, Or.inl ⟨i, h1, rfl, hi, rfl⟩⟩) dX3_above_18
  · refine px_if_eq hC 17 dX3_above_5 (by decide) (fun _ => ?_) (fun q9 => (q9 (by decide)).elim)
    refine px_lconst (v := lN 0) hC (by decide) dX3_above_17 ?_
    subst hQ
    exact px_lret hC rfl (⟨_, rfl, rfl, rfl, Or.inr ⟨h1, rfl⟩⟩) dX3_above_18
theorem c_under (l : Launch) (a : Int32) (hX : XS E L f rr sy nm dn el lt cs np od wk tp bt ot ob ad0 ra n w td nu de) : px_M l yX3_under wsX3_under (px_rm 1 21) E L f [.ref rr, .int a] (px_l L (fun z f' => f' = f ∧ ((∃ i, td = 1 ∧ a = nI i ∧ i < n ∧ z = de i) ∨ (¬ (td = 1 ∧ ink a n) ∧ z = lN 0)))) := by
  refine px_M.of (cc := cX3_under) (maxL := 2) (ret := (some .long)) (lv := [(0, .ref rr), (1, .int a)]) (by decide) rfl (Nat.le_of_ble_eq_true rfl) rfl ?_
  intro p e s m below meth c A hC hnm
  obtain ⟨Q, hQ⟩ : ∃ Q, Q = MQ below (px_Q E (px_l L (fun z f' => f' = f ∧ ((∃ i, td = 1 ∧ a = nI i ∧ i < n ∧ z = de i) ∨ (¬ (td = 1 ∧ ink a n) ∧ z = lN 0)))) A) [.ref rr, .int a].toArray s (px_rm 1 21).cells (px_rm 1 21).slots A := ⟨_, rfl⟩
  rw [← hQ]
  obtain ⟨hG, h1n, hn, htd, hq, hsy, hra, hnm, hdn, hE, hL⟩ := hX
  refine px_aload_n hC 0 rfl dX3_under_0 ?_
  refine px_iload_n hC 1 rfl dX3_under_1 ?_
  refine px_callVi (C := RX3) (T := TX3) (N := 7) (st := []) (nn := 1) hC (c_told l E L f rr n td a hq hn htd) hq rfl gX3_under_X3_isTold rfl (by decide +kernel) (by decide) (Nat.le_of_ble_eq_true rfl) (by decide) rfl rfl dX3_under_2 (fun z f1 hz => ?_)
  obtain ⟨rfl, hz⟩ := hz
  rcases hz with ⟨rfl, h1, i, rfl, hi⟩ | ⟨rfl, h1⟩
  · refine px_if_eq hC 17 dX3_under_5 (by decide) (fun q9 => absurd q9 (by decide)) (fun _ => ?_)
    refine px_aload_n hC 0 rfl dX3_under_8 ?_
    refine px_get (C := RX3) (T := TX3) (N := 7) hC hq rfl kkX3_under_X3 2 (by decide) flX3_under_18 rfl dX3_under_9 ?_
    refine px_iload_n hC 1 rfl dX3_under_12 ?_
    refine px_lald hC hdn (by omega) (by first | decide | assumption | omega) dX3_under_13 ?_
    refine px_goto hC 18 dX3_under_14 (by decide) ?_
    subst hQ
    exact px_lret hC rfl (⟨_, rfl, rfl, rfl, Or.inl ⟨i, h1, rfl, hi, rfl⟩⟩) dX3_under_18
  · refine px_if_eq hC 17 dX3_under_5 (by decide) (fun _ => ?_) (fun q9 => (q9 (by decide)).elim)
    refine px_lconst (v := lN 0) hC (by decide) dX3_under_17 ?_
    subst hQ
    exact px_lret hC rfl (⟨_, rfl, rfl, rfl, Or.inr ⟨h1, rfl⟩⟩) dX3_under_18
theorem c_get (l : Launch) (a b : Int32) (hX : XS E L f rr sy nm dn el lt cs np od wk tp bt ot ob ad0 ra n w td nu de) : px_M l yX3_get wsX3_get (px_rm 1 22) E L f [.ref rr, .int a, .int b] (px_i L (fun z f' => f' = f ∧ ((∃ i j, a = nI i ∧ b = nI j ∧ i < n ∧ j ≤ n ∧ z = w i j) ∨ (¬ inb a b n ∧ z = nI 0)))) := by
  refine px_M.of (cc := cX3_get) (maxL := 3) (ret := (some .int)) (lv := [(0, .ref rr), (1, .int a), (2, .int b)]) (by decide) rfl (Nat.le_of_ble_eq_true rfl) rfl ?_
  intro p e s m below meth c A hC hnm
  obtain ⟨Q, hQ⟩ : ∃ Q, Q = MQ below (px_Q E (px_i L (fun z f' => f' = f ∧ ((∃ i j, a = nI i ∧ b = nI j ∧ i < n ∧ j ≤ n ∧ z = w i j) ∨ (¬ inb a b n ∧ z = nI 0)))) A) [.ref rr, .int a, .int b].toArray s (px_rm 1 22).cells (px_rm 1 22).slots A := ⟨_, rfl⟩
  rw [← hQ]
  obtain ⟨hG, h1n, hn, htd, hq, ⟨sr, hsy, hsr⟩, hra, hnm, hdn, hE, hL⟩ := hX
  refine px_aload_n hC 0 rfl dX3_get_0 ?_
  refine px_iload_n hC 1 rfl dX3_get_1 ?_
  refine px_iload_n hC 2 rfl dX3_get_2 ?_
  refine px_callVi (C := RX3) (T := TX3) (N := 7) (st := []) (nn := 2) hC (c_has l E L f rr n a b hq hn) hq rfl gX3_get_X3_hasNumber rfl (by decide +kernel) (by decide) (Nat.le_of_ble_eq_true rfl) (by decide) rfl rfl dX3_get_3 (fun z f1 hz => ?_)
  obtain ⟨rfl, hz⟩ := hz
  rcases hz with ⟨rfl, i, j, rfl, rfl, hi, hj⟩ | ⟨rfl, h1⟩
  · refine px_if_eq hC 20 dX3_get_6 (by decide) (fun q9 => absurd q9 (by decide)) (fun _ => ?_)
    refine px_aload_n hC 0 rfl dX3_get_9 ?_
    refine px_get (C := RX3) (T := TX3) (N := 7) hC hq rfl kkX3_get_X3 0 (by decide) flX3_get_11 rfl dX3_get_10 ?_
    refine px_iload_n hC 1 rfl dX3_get_13 ?_
    refine px_aald (t0 := 3) hC hsy rfl rfl (by omega) (by first | decide | assumption | omega) (hsr i (by omega)) dX3_get_14 ?_
    refine px_iload_n hC 2 rfl dX3_get_15 ?_
    refine px_iald hC (hra i (by omega)) (by omega) (by first | decide | assumption | omega) dX3_get_16 ?_
    refine px_goto hC 21 dX3_get_17 (by decide) ?_
    subst hQ
    exact px_iret hC rfl (⟨_, rfl, rfl, rfl, Or.inl ⟨i, j, rfl, rfl, hi, hj, rfl⟩⟩) dX3_get_21
  · refine px_if_eq hC 20 dX3_get_6 (by decide) (fun _ => ?_) (fun q9 => (q9 (by decide)).elim)
    refine px_iconst (v := nI 0) hC (by decide) dX3_get_20 ?_
    subst hQ
    exact px_iret hC rfl (⟨_, rfl, rfl, rfl, Or.inr ⟨h1, rfl⟩⟩) dX3_get_21
end XX
