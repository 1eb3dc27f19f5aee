/-! ===== Elimination: the object, its cells ===== -/
abbrev eF (cs np od wk : Nat) (sz eb tw : Int32) (iv : Int64) (mw ww : Int32) : List Value := [.ref cs, .ref np, .ref od, .ref wk, .int sz, .int eb, .int tw, .long iv, .int mw, .int ww]
/-- the kind of a cell -/
def knd (x : va_E) : Nat := match x with
  | .inl (_, _, .inl _) => 0
  | .inl (_, _, .inr (.inl _)) => 1
  | .inl (_, _, .inr (.inr _)) => 2
  | .inr (c, _) => 10 + c
theorem px_at.nk {L : List Nat} {f : Nat → va_E} {a b : Nat} {x y : va_E} (h : px_at L f a x) (h2 : px_at L f b y) (hk : (knd x == knd y) = false) : a ≠ b := h.ne h2 (fun e => by rw [e, beq_self_eq_true] at hk; cases hk)
def cR (E : px_E) (L : List Nat) (f : Nat → va_E) (a : Nat) (v : Int) : Prop := ∃ x, px_at L f a (aJ E 21 (lw x)) ∧ dg x ∧ sg x = v
theorem cR.fr {E : px_E} {L : List Nat} {f g : Nat → va_E} {a : Nat} {v : Int} (h : cR E L f a v) (e : g a = f a) : cR E L g a v := by
  obtain ⟨x, h1, h2, h3⟩ := h
  exact ⟨x, ⟨h1.1, e.trans h1.2⟩, h2, h3⟩
theorem px_at.fr {L : List Nat} {f g : Nat → va_E} {a : Nat} {x : va_E} (h : px_at L f a x) (e : g a = f a) : px_at L g a x := ⟨h.1, e.trans h.2⟩
theorem sg_0 {x : Nat → Nat} (hx : dg x) : vl 4294967296 x 21 = 0 ↔ sg x = 0 := by
  have h1 := vl_lt hx
  unfold sg
  constructor
  · intro h
    have h2 := vl_z (by decide) h 20 (by decide)
    rw [if_neg (by omega), h]
    rfl
  · intro h
    by_cases q : 2147483648 ≤ x 20
    · rw [if_pos q] at h; omega
    · rw [if_neg q] at h; omega
theorem flX0_cell_13 : Cond.fieldLink RX0 13 "RowReduction$Elimination" "cells" "[[J" ∈ wsX0_cell := by decide +kernel
theorem kkX0_cell_X0 : ∀ w ∈ wsX00, w ∈ wsX0_cell := fun _ h => List.mem_cons_of_mem _ (List.mem_append_right _ h)
theorem flX0_limbsOfMinor_32 : Cond.fieldLink RX0 32 "RowReduction$Elimination" "entryBits" "I" ∈ wsX0_limbsOfMinor := by decide +kernel
theorem kkX0_limbsOfMinor_X0 : ∀ w ∈ wsX00, w ∈ wsX0_limbsOfMinor := fun _ h => List.mem_cons_of_mem _ (List.mem_append_right _ h)
theorem flX0_dividend_28 : Cond.fieldLink RX0 28 "RowReduction$Elimination" "size" "I" ∈ wsX0_dividend := by decide +kernel
theorem kkX0_dividend_X0 : ∀ w ∈ wsX00, w ∈ wsX0_dividend := fun _ h => List.mem_cons_of_mem _ (List.mem_append_right _ h)
theorem flX0_divisor_28 : Cond.fieldLink RX0 28 "RowReduction$Elimination" "size" "I" ∈ wsX0_divisor := by decide +kernel
theorem kkX0_divisor_X0 : ∀ w ∈ wsX00, w ∈ wsX0_divisor := fun _ h => List.mem_cons_of_mem _ (List.mem_append_right _ h)
theorem flX0_width_28 : Cond.fieldLink RX0 28 "RowReduction$Elimination" "size" "I" ∈ wsX0_width := by decide +kernel
theorem kkX0_width_X0 : ∀ w ∈ wsX00, w ∈ wsX0_width := fun _ h => List.mem_cons_of_mem _ (List.mem_append_right _ h)
theorem flX0_findPivotRow_28 : Cond.fieldLink RX0 28 "RowReduction$Elimination" "size" "I" ∈ wsX0_findPivotRow := by decide +kernel
theorem kkX0_findPivotRow_X0 : ∀ w ∈ wsX00, w ∈ wsX0_findPivotRow := fun _ h => List.mem_cons_of_mem _ (List.mem_append_right _ h)
theorem flX0_swapRows_28 : Cond.fieldLink RX0 28 "RowReduction$Elimination" "size" "I" ∈ wsX0_swapRows := by decide +kernel
theorem kkX0_swapRows_X0 : ∀ w ∈ wsX00, w ∈ wsX0_swapRows := fun _ h => List.mem_cons_of_mem _ (List.mem_append_right _ h)
theorem flX0_swapRows_13 : Cond.fieldLink RX0 13 "RowReduction$Elimination" "cells" "[[J" ∈ wsX0_swapRows := by decide +kernel
theorem c_cell (l : Launch) (E : px_E) (L : List Nat) (f : Nat → va_E) (q i j : Nat) {cs np od wk : Nat} {sz eb tw : Int32} {iv : Int64} {mw ww : Int32} {cr : Nat → Option Nat} {a : Nat} (hq : px_at L f q (.inr (0, eF cs np od wk sz eb tw iv mw ww))) (hc : px_at L f cs (aJJ E 110 cr)) (hr : cr (i * 11 + j) = some a) (hij : i * 11 + j < 110) : px_M l yX0_cell wsX0_cell (px_rm 0 0) E L f [.ref q, .int (nI i), .int (nI j)] (px_r L (fun z f' => f' = f ∧ z = a)) := by
  refine px_M.of (cc := cX0_cell) (maxL := 3) (ret := (some (.array .long))) (lv := [(0, .ref q), (1, .int (nI i)), (2, .int (nI j))]) (by decide) rfl (Nat.le_of_ble_eq_true rfl) rfl ?_
  intro p e s m below meth c A hC hnm
  obtain ⟨Q, hQ⟩ : ∃ Q, Q = MQ below (px_Q E (px_r L (fun z f' => f' = f ∧ z = a)) A) [.ref q, .int (nI i), .int (nI j)].toArray s (px_rm 0 0).cells (px_rm 0 0).slots A := ⟨_, rfl⟩
  rw [← hQ]
  refine px_aload_n hC 0 rfl dX0_cell_0 ?_
  refine px_get (C := RX0) (T := TX0) (N := 10) hC hq rfl kkX0_cell_X0 0 (by decide) flX0_cell_13 rfl dX0_cell_1 ?_
  refine px_iload_n hC 1 rfl dX0_cell_4 ?_
  refine px_bipush (v := nI 11) hC (by decide) dX0_cell_5 ?_
  refine px_imul hC dX0_cell_7 ?_
  refine px_iload_n hC 2 rfl dX0_cell_8 ?_
  refine px_iadd hC dX0_cell_9 ?_
  refine px_ei (y := nI (i * 11 + j)) (by rw [pk_mul, nI_add]) ?_
  refine px_aald (t0 := 4) hC hc rfl rfl hij (by first | decide | assumption | omega) hr dX0_cell_10 ?_
  subst hQ
  exact px_aret hC rfl (Or.inr ⟨_, rfl⟩) (⟨_, rfl, rfl, rfl, rfl⟩) dX0_cell_11
theorem c_limbs (l : Launch) (E : px_E) (L : List Nat) (f : Nat → va_E) (q r : Nat) {cs np od wk : Nat} {sz : Int32} {eb : Nat} {tw : Int32} {iv : Int64} {mw ww : Int32} (hq : px_at L f q (.inr (0, eF cs np od wk sz (nI eb) tw iv mw ww))) (hr : r ≤ 10) (he : eb ≤ 31) : px_M l yX0_limbsOfMinor wsX0_limbsOfMinor (px_rm 0 0) E L f [.ref q, .int (nI r)] (px_i L (fun z f' => f' = f ∧ z = nI ((r * eb + 23) / 32 + 1))) := by
  refine px_M.of (cc := cX0_limbsOfMinor) (maxL := 2) (ret := (some .int)) (lv := [(0, .ref q), (1, .int (nI r))]) (by decide) rfl (Nat.le_of_ble_eq_true rfl) rfl ?_
  intro p e s m below meth c A hC hnm
  obtain ⟨Q, hQ⟩ : ∃ Q, Q = MQ below (px_Q E (px_i L (fun z f' => f' = f ∧ z = nI ((r * eb + 23) / 32 + 1))) A) [.ref q, .int (nI r)].toArray s (px_rm 0 0).cells (px_rm 0 0).slots A := ⟨_, rfl⟩
  rw [← hQ]
  have h1 : r * eb ≤ 10 * 31 := Nat.mul_le_mul hr he
  refine px_iload_n hC 1 rfl dX0_limbsOfMinor_0 ?_
  refine px_aload_n hC 0 rfl dX0_limbsOfMinor_1 ?_
  refine px_get (C := RX0) (T := TX0) (N := 10) hC hq rfl kkX0_limbsOfMinor_X0 5 (by decide) flX0_limbsOfMinor_32 rfl dX0_limbsOfMinor_2 ?_
  refine px_imul hC dX0_limbsOfMinor_5 ?_
  refine px_bipush (v := nI 23) hC (by decide) dX0_limbsOfMinor_6 ?_
  refine px_iadd hC dX0_limbsOfMinor_8 ?_
  refine px_ei (y := nI (r * eb + 23)) (by rw [pk_mul, nI_add]) ?_
  refine px_bipush (v := nI 32) hC (by decide) dX0_limbsOfMinor_9 ?_
  refine px_idiv hC (by decide) dX0_limbsOfMinor_11 ?_
  refine px_ei (y := nI ((r * eb + 23) / 32)) (pk_div (by omega) (by decide) (by decide)) ?_
  refine px_iconst (v := nI 1) hC (by decide) dX0_limbsOfMinor_12 ?_
  refine px_iadd hC dX0_limbsOfMinor_13 ?_
  refine px_ei (y := nI ((r * eb + 23) / 32 + 1)) (nI_add _ _) ?_
  subst hQ
  exact px_iret hC rfl (⟨_, rfl, rfl, rfl, rfl⟩) dX0_limbsOfMinor_14
theorem c_dividend (l : Launch) (E : px_E) (L : List Nat) (f : Nat → va_E) (q k n : Nat) {cs np od wk : Nat} {eb tw : Int32} {iv : Int64} {mw ww : Int32} {cr : Nat → Option Nat} {a : Nat} (hq : px_at L f q (.inr (0, eF cs np od wk (nI n) eb tw iv mw ww))) (hc : px_at L f cs (aJJ E 110 cr)) (hr : cr (k * 11 + n) = some a) (hij : k * 11 + n < 110) : px_M l yX0_dividend wsX0_dividend (px_rm 1 22) E L f [.ref q, .int (nI k)] (px_r L (fun z f' => f' = f ∧ z = a)) := by
  refine px_M.of (cc := cX0_dividend) (maxL := 2) (ret := (some (.array .long))) (lv := [(0, .ref q), (1, .int (nI k))]) (by decide) rfl (Nat.le_of_ble_eq_true rfl) rfl ?_
  intro p e s m below meth c A hC hnm
  obtain ⟨Q, hQ⟩ : ∃ Q, Q = MQ below (px_Q E (px_r L (fun z f' => f' = f ∧ z = a)) A) [.ref q, .int (nI k)].toArray s (px_rm 1 22).cells (px_rm 1 22).slots A := ⟨_, rfl⟩
  rw [← hQ]
  refine px_aload_n hC 0 rfl dX0_dividend_0 ?_
  refine px_iload_n hC 1 rfl dX0_dividend_1 ?_
  refine px_aload_n hC 0 rfl dX0_dividend_2 ?_
  refine px_get (C := RX0) (T := TX0) (N := 10) hC hq rfl kkX0_dividend_X0 4 (by decide) flX0_dividend_28 rfl dX0_dividend_3 ?_
  refine px_callVr (C := RX0) (T := TX0) (N := 10) (st := []) (nn := 2) hC (c_cell l E L f q k n hq hc hr hij) hq rfl gX0_dividend_X0_cell rfl (by decide +kernel) (by decide) (Nat.le_of_ble_eq_true rfl) (by decide) rfl rfl dX0_dividend_6 (fun z f1 hz => ?_)
  obtain ⟨rfl, rfl⟩ := hz
  subst hQ
  exact px_aret hC rfl (Or.inr ⟨_, rfl⟩) (⟨_, rfl, rfl, rfl, rfl⟩) dX0_dividend_9
theorem c_divisor (l : Launch) (E : px_E) (L : List Nat) (f : Nat → va_E) (q n : Nat) {cs np od wk : Nat} {eb tw : Int32} {iv : Int64} {mw ww : Int32} {cr : Nat → Option Nat} {a : Nat} (hq : px_at L f q (.inr (0, eF cs np od wk (nI n) eb tw iv mw ww))) (hc : px_at L f cs (aJJ E 110 cr)) (h1 : 1 ≤ n) (hr : cr ((n - 1) * 11 + (n - 1)) = some a) (hij : (n - 1) * 11 + (n - 1) < 110) : px_M l yX0_divisor wsX0_divisor (px_rm 1 22) E L f [.ref q] (px_r L (fun z f' => f' = f ∧ z = a)) := by
  refine px_M.of (cc := cX0_divisor) (maxL := 1) (ret := (some (.array .long))) (lv := [(0, .ref q)]) (by decide) rfl (Nat.le_of_ble_eq_true rfl) rfl ?_
  intro p e s m below meth c A hC hnm
  obtain ⟨Q, hQ⟩ : ∃ Q, Q = MQ below (px_Q E (px_r L (fun z f' => f' = f ∧ z = a)) A) [.ref q].toArray s (px_rm 1 22).cells (px_rm 1 22).slots A := ⟨_, rfl⟩
  rw [← hQ]
  refine px_aload_n hC 0 rfl dX0_divisor_0 ?_
  refine px_aload_n hC 0 rfl dX0_divisor_1 ?_
  refine px_get (C := RX0) (T := TX0) (N := 10) hC hq rfl kkX0_divisor_X0 4 (by decide) flX0_divisor_28 rfl dX0_divisor_2 ?_
  refine px_iconst (v := nI 1) hC (by decide) dX0_divisor_5 ?_
  refine px_isub hC dX0_divisor_6 ?_
  refine px_ei (y := nI (n - 1)) (pk_sub h1) ?_
  refine px_aload_n hC 0 rfl dX0_divisor_7 ?_
  refine px_get (C := RX0) (T := TX0) (N := 10) hC hq rfl kkX0_divisor_X0 4 (by decide) flX0_divisor_28 rfl dX0_divisor_8 ?_
  refine px_iconst (v := nI 1) hC (by decide) dX0_divisor_11 ?_
  refine px_isub hC dX0_divisor_12 ?_
  refine px_ei (y := nI (n - 1)) (pk_sub h1) ?_
  refine px_callVr (C := RX0) (T := TX0) (N := 10) (st := []) (nn := 2) hC (c_cell l E L f q (n - 1) (n - 1) hq hc hr hij) hq rfl gX0_divisor_X0_cell rfl (by decide +kernel) (by decide) (Nat.le_of_ble_eq_true rfl) (by decide) rfl rfl dX0_divisor_13 (fun z f1 hz => ?_)
  obtain ⟨rfl, rfl⟩ := hz
  subst hQ
  exact px_aret hC rfl (Or.inr ⟨_, rfl⟩) (⟨_, rfl, rfl, rfl, rfl⟩) dX0_divisor_16
theorem c_width (l : Launch) (E : px_E) (L : List Nat) (f : Nat → va_E) (q n : Nat) {cs np od wk : Nat} {eb : Nat} {tw : Int32} {iv : Int64} {mw ww : Int32} (hq : px_at L f q (.inr (0, eF cs np od wk (nI n) (nI eb) tw iv mw ww))) (hn : n ≤ 10) (he : eb ≤ 31) : px_M l yX0_width wsX0_width (px_rm 1 21) E L f [.ref q] (px_i L (fun z f' => f' = f ∧ z = nI ((n * eb + 23) / 32 + 1))) := by
  refine px_M.of (cc := cX0_width) (maxL := 1) (ret := (some .int)) (lv := [(0, .ref q)]) (by decide) rfl (Nat.le_of_ble_eq_true rfl) rfl ?_
  intro p e s m below meth c A hC hnm
  obtain ⟨Q, hQ⟩ : ∃ Q, Q = MQ below (px_Q E (px_i L (fun z f' => f' = f ∧ z = nI ((n * eb + 23) / 32 + 1))) A) [.ref q].toArray s (px_rm 1 21).cells (px_rm 1 21).slots A := ⟨_, rfl⟩
  rw [← hQ]
  refine px_aload_n hC 0 rfl dX0_width_0 ?_
  refine px_aload_n hC 0 rfl dX0_width_1 ?_
  refine px_get (C := RX0) (T := TX0) (N := 10) hC hq rfl kkX0_width_X0 4 (by decide) flX0_width_28 rfl dX0_width_2 ?_
  refine px_callVi (C := RX0) (T := TX0) (N := 10) (st := []) (nn := 1) hC (c_limbs l E L f q n hq hn he) hq rfl gX0_width_X0_limbsOfMinor rfl (by decide +kernel) (by decide) (Nat.le_of_ble_eq_true rfl) (by decide) rfl rfl dX0_width_5 (fun z f1 hz => ?_)
  obtain ⟨rfl, rfl⟩ := hz
  subst hQ
  exact px_iret hC rfl (⟨_, rfl, rfl, rfl, rfl⟩) dX0_width_8
theorem c_pivot (l : Launch) (E : px_E) (L : List Nat) (f : Nat → va_E) (q k n : Nat) {cs np od wk : Nat} {eb tw : Int32} {iv : Int64} {mw ww : Int32} {cr : Nat → Option Nat} (M : Nat → Nat → Int) (hq : px_at L f q (.inr (0, eF cs np od wk (nI n) eb tw iv mw ww))) (hc : px_at L f cs (aJJ E 110 cr)) (hn : n ≤ 10) (hk : k < n) (hM : ∀ i, i < n → ∃ a, cr (i * 11 + k) = some a ∧ cR E L f a (M i k)) : px_M l yX0_findPivotRow wsX0_findPivotRow (px_rm 1 22) E L f [.ref q, .int (nI k)] (px_i L (fun z f' => f' = f ∧ z = (match fnd M k k (n - k) with | none => (-1) | some p => nI p))) := by
  refine px_M.of (cc := cX0_findPivotRow) (maxL := 3) (ret := (some .int)) (lv := [(0, .ref q), (1, .int (nI k))]) (by decide) rfl (Nat.le_of_ble_eq_true rfl) rfl ?_
  intro p e s m below meth c A hC hnm
  obtain ⟨Q, hQ⟩ : ∃ Q, Q = MQ below (px_Q E (px_i L (fun z f' => f' = f ∧ z = (match fnd M k k (n - k) with | none => (-1) | some p => nI p))) A) [.ref q, .int (nI k)].toArray s (px_rm 1 22).cells (px_rm 1 22).slots A := ⟨_, rfl⟩
  rw [← hQ]
  have loop : ∀ (d i : Nat), i + d = n → fnd M k k (n - k) = fnd M k i d → px p l e (px_rm 1 22) s m [.ref q, .int (nI k)].toArray below meth c 3 E A s.heap L (f) 0 0 Q 2 [(0, .ref q), (1, .int (nI k)), (2, .int (nI i))] [] := by
    intro d
    induction d with
    | zero =>
      intro i hi hf
      refine px_iload_n hC 2 rfl dX0_findPivotRow_2 ?_
      refine px_aload_n hC 0 rfl dX0_findPivotRow_3 ?_
      refine px_get (C := RX0) (T := TX0) (N := 10) hC hq rfl kkX0_findPivotRow_X0 4 (by decide) flX0_findPivotRow_28 rfl dX0_findPivotRow_4 ?_
      refine px_icmp_ge hC 30 dX0_findPivotRow_7 (by decide) (fun _ => ?_) (fun q9 => (q9 (nI_le (by omega) (by omega))).elim)
      refine px_iconst (v := (-1)) hC (by decide) dX0_findPivotRow_30 ?_
      subst hQ
      exact px_iret hC rfl (⟨_, rfl, rfl, rfl, by rw [hf]; rfl⟩) dX0_findPivotRow_31
    | succ d ih =>
      intro i hi hf
      obtain ⟨a, ha, x, hx, hdx, hsx⟩ := hM i (by omega)
      refine px_iload_n hC 2 rfl dX0_findPivotRow_2 ?_
      refine px_aload_n hC 0 rfl dX0_findPivotRow_3 ?_
      refine px_get (C := RX0) (T := TX0) (N := 10) hC hq rfl kkX0_findPivotRow_X0 4 (by decide) flX0_findPivotRow_28 rfl dX0_findPivotRow_4 ?_
      refine px_icmp_ge hC 30 dX0_findPivotRow_7 (by decide) (fun q9 => absurd q9 (nI_ge (by omega) (by omega))) (fun _ => ?_)
      refine px_aload_n hC 0 rfl dX0_findPivotRow_10 ?_
      refine px_iload_n hC 2 rfl dX0_findPivotRow_11 ?_
      refine px_iload_n hC 1 rfl dX0_findPivotRow_12 ?_
      refine px_callVr (C := RX0) (T := TX0) (N := 10) (st := []) (nn := 2) hC (c_cell l E L f q i k hq hc ha (by omega)) hq rfl gX0_findPivotRow_X0_cell rfl (by decide +kernel) (by decide) (Nat.le_of_ble_eq_true rfl) (by decide) rfl rfl dX0_findPivotRow_13 (fun z f1 hz => ?_)
      obtain ⟨rfl, rfl⟩ := hz
      refine px_callSi (st := []) (nn := 1) hC (c_isZero l E L _ z x hx hdx) gX0_findPivotRow_X1_isZero rfl (by decide +kernel) (by decide) (Nat.le_of_ble_eq_true rfl) (by decide) rfl rfl dX0_findPivotRow_16 (fun z2 f2 hz2 => ?_)
      obtain ⟨rfl, hz2⟩ := hz2
      rcases hz2 with ⟨rfl, h0⟩ | ⟨rfl, h0⟩
      · refine px_if_ne hC 24 dX0_findPivotRow_19 (by decide) (fun _ => ?_) (fun q9 => absurd q9 (by decide))
        refine px_iinc (v := nI (i + 1)) (lv' := [(0, .ref q), (1, .int (nI k)), (2, .int (nI (i + 1)))]) hC 2 [1, 2, 0] dX0_findPivotRow_24 rfl (nI_1 i) (by decide) rfl ?_
        refine px_goto hC 2 dX0_findPivotRow_27 (by decide) ?_
        refine ih (i + 1) (by omega) ?_
        rw [hf, fnd, if_pos (by rw [← hsx]; exact (sg_0 hdx).mp h0)]
      · refine px_if_ne hC 24 dX0_findPivotRow_19 (by decide) (fun q9 => (q9 (by decide)).elim) (fun _ => ?_)
        refine px_iload_n hC 2 rfl dX0_findPivotRow_22 ?_
        subst hQ
        exact px_iret hC rfl (⟨_, rfl, rfl, rfl, by rw [hf, fnd, if_neg (fun e => h0 ((sg_0 hdx).mpr (by rw [hsx]; exact e)))]⟩) dX0_findPivotRow_23
  refine px_iload_n hC 1 rfl dX0_findPivotRow_0 ?_
  refine px_istore_n (lv' := [(0, .ref q), (1, .int (nI k)), (2, .int (nI k))]) hC [1, 2, 0] dX0_findPivotRow_1 (by decide) rfl ?_
  exact loop (n - k) k (by omega) rfl
def crS (cr : Nat → Option Nat) (o p c : Nat) : Nat → Option Nat := fun t => if t / 11 = o ∧ t % 11 < c then cr (p * 11 + t % 11) else if t / 11 = p ∧ t % 11 < c then cr (o * 11 + t % 11) else cr t
theorem crS_0 (cr : Nat → Option Nat) (o p : Nat) : crS cr o p 0 = cr := by
  funext t
  unfold crS
  rw [if_neg (by omega), if_neg (by omega)]
theorem crS_same (cr : Nat → Option Nat) (o c : Nat) : crS cr o o c = cr := by
  funext t
  unfold crS
  by_cases q : t / 11 = o ∧ t % 11 < c
  · rw [if_pos q, show o * 11 + t % 11 = t by omega]
  · rw [if_neg q, if_neg q]
theorem crS_s (cr : Nat → Option Nat) {o p c : Nat} (hne : o ≠ p) (hc : c < 11) : va_up (va_up (crS cr o p c) (o * 11 + c) (cr (p * 11 + c))) (p * 11 + c) (cr (o * 11 + c)) = crS cr o p (c + 1) := by
  funext t
  by_cases q1 : t = p * 11 + c
  · subst q1
    rw [va_up_self]
    unfold crS
    rw [if_neg (by omega), if_pos (by omega), show (p * 11 + c) % 11 = c by omega]
  · rw [va_up_ne _ _ q1]
    by_cases q2 : t = o * 11 + c
    · subst q2
      rw [va_up_self]
      unfold crS
      rw [if_pos (by omega), show (o * 11 + c) % 11 = c by omega]
    · rw [va_up_ne _ _ q2]
      unfold crS
      by_cases q3 : t / 11 = o ∧ t % 11 < c
      · rw [if_pos q3, if_pos (by omega)]
      · rw [if_neg q3, if_neg (show ¬ (t / 11 = o ∧ t % 11 < c + 1) by omega)]
        by_cases q4 : t / 11 = p ∧ t % 11 < c
        · rw [if_pos q4, if_pos (by omega)]
        · rw [if_neg q4, if_neg (by omega)]
theorem c_swap (l : Launch) (E : px_E) (L : List Nat) (f : Nat → va_E) (q o pp n : Nat) {cs np od wk : Nat} {eb tw : Int32} {iv : Int64} {mw ww : Int32} {cr : Nat → Option Nat} (hq : px_at L f q (.inr (0, eF cs np od wk (nI n) eb tw iv mw ww))) (hc : px_at L f cs (aJJ E 110 cr)) (hn : n ≤ 10) (ho : o < n) (hp : pp < n) (hA : ∀ t, t < 110 → ∃ a r, cr t = some a ∧ px_at L f a (aJ E 21 r)) : px_M l yX0_swapRows wsX0_swapRows (px_rm 1 22) E L f [.ref q, .int (nI o), .int (nI pp)] (px_v L (fun f' => f' = va_up f cs (aJJ E 110 (crS cr o pp (n + 1))))) := by
  refine px_M.of (cc := cX0_swapRows) (maxL := 5) (ret := none) (lv := [(0, .ref q), (1, .int (nI o)), (2, .int (nI pp))]) (by decide) rfl (Nat.le_of_ble_eq_true rfl) rfl ?_
  intro p e s m below meth c A hC hnm
  obtain ⟨Q, hQ⟩ : ∃ Q, Q = MQ below (px_Q E (px_v L (fun f' => f' = va_up f cs (aJJ E 110 (crS cr o pp (n + 1))))) A) [.ref q, .int (nI o), .int (nI pp)].toArray s (px_rm 1 22).cells (px_rm 1 22).slots A := ⟨_, rfl⟩
  rw [← hQ]
  by_cases hne : o = pp
  · subst hne
    refine px_iload_n hC 1 rfl dX0_swapRows_0 ?_
    refine px_iload_n hC 2 rfl dX0_swapRows_1 ?_
    refine px_icmp_ne hC 6 dX0_swapRows_2 (by decide) (fun q9 => (q9 (rfl)).elim) (fun _ => ?_)
    subst hQ
    exact px_vret hC rfl (⟨rfl, rfl, by show f = _; rw [crS_same, px_us hc.2]⟩) dX0_swapRows_5
  have hqc : q ≠ cs := hq.nk hc rfl
  have loop : ∀ (d jc : Nat), jc + d = n + 1 → px p l e (px_rm 1 22) s m [.ref q, .int (nI o), .int (nI pp)].toArray below meth c 5 E A s.heap L (va_up f cs (aJJ E 110 (crS cr o pp jc))) 0 0 Q 8 [(0, .ref q), (1, .int (nI o)), (2, .int (nI pp)), (3, .int (nI jc))] [] := by
    intro d
    induction d with
    | zero =>
      intro jc hd
      have e : jc = n + 1 := by omega
      subst e
      refine px_iload_n hC 3 rfl dX0_swapRows_8 ?_
      refine px_aload_n hC 0 rfl dX0_swapRows_9 ?_
      refine px_get (C := RX0) (T := TX0) (N := 10) hC (hq.up hqc) rfl kkX0_swapRows_X0 4 (by decide) flX0_swapRows_28 rfl dX0_swapRows_10 ?_
      refine px_icmp_gt hC 60 dX0_swapRows_13 (by decide) (fun _ => ?_) (fun q9 => (q9 (nI_lt (by omega) (by omega))).elim)
      subst hQ
      exact px_vret hC rfl (⟨rfl, rfl, rfl⟩) dX0_swapRows_60
    | succ d ih =>
      intro jc hd
      obtain ⟨a, ra, ha, hxa⟩ := hA (o * 11 + jc) (by omega)
      obtain ⟨b, rb, hb, hxb⟩ := hA (pp * 11 + jc) (by omega)
      have hac : a ≠ cs := hxa.nk hc rfl
      have hbc : b ≠ cs := hxb.nk hc rfl
      have h1 : crS cr o pp jc (o * 11 + jc) = some a := by
        unfold crS; rw [if_neg (by omega), if_neg (by omega)]; exact ha
      have h2 : crS cr o pp jc (pp * 11 + jc) = some b := by
        unfold crS; rw [if_neg (by omega), if_neg (by omega)]; exact hb
      refine px_iload_n hC 3 rfl dX0_swapRows_8 ?_
      refine px_aload_n hC 0 rfl dX0_swapRows_9 ?_
      refine px_get (C := RX0) (T := TX0) (N := 10) hC (hq.up hqc) rfl kkX0_swapRows_X0 4 (by decide) flX0_swapRows_28 rfl dX0_swapRows_10 ?_
      refine px_icmp_gt hC 60 dX0_swapRows_13 (by decide) (fun q9 => absurd q9 (nI_nlt (by omega) (by omega))) (fun _ => ?_)
      refine px_aload_n hC 0 rfl dX0_swapRows_16 ?_
      refine px_iload_n hC 1 rfl dX0_swapRows_17 ?_
      refine px_iload_n hC 3 rfl dX0_swapRows_18 ?_
      refine px_callVr (C := RX0) (T := TX0) (N := 10) (st := []) (nn := 2) hC (c_cell l E L _ q o jc (hq.up hqc) hc.self h1 (by omega)) (hq.up hqc) rfl gX0_swapRows_X0_cell rfl (by decide +kernel) (by decide) (Nat.le_of_ble_eq_true rfl) (by decide) rfl rfl dX0_swapRows_19 (fun z f1 hz => ?_)
      obtain ⟨rfl, rfl⟩ := hz
      refine px_astore (lv' := [(0, .ref q), (1, .int (nI o)), (2, .int (nI pp)), (3, .int (nI jc)), (4, .ref z)]) hC [1, 2, 3, 4, 0] dX0_swapRows_22 (by decide) rfl ?_
      refine px_aload_n hC 0 rfl dX0_swapRows_24 ?_
      refine px_get (C := RX0) (T := TX0) (N := 10) hC (hq.up hqc) rfl kkX0_swapRows_X0 0 (by decide) flX0_swapRows_13 rfl dX0_swapRows_25 ?_
      refine px_iload_n hC 1 rfl dX0_swapRows_28 ?_
      refine px_bipush (v := nI 11) hC (by decide) dX0_swapRows_29 ?_
      refine px_imul hC dX0_swapRows_31 ?_
      refine px_iload_n hC 3 rfl dX0_swapRows_32 ?_
      refine px_iadd hC dX0_swapRows_33 ?_
      refine px_ei (y := nI (o * 11 + jc)) (by rw [pk_mul, nI_add]) ?_
      refine px_aload_n hC 0 rfl dX0_swapRows_34 ?_
      refine px_iload_n hC 2 rfl dX0_swapRows_35 ?_
      refine px_iload_n hC 3 rfl dX0_swapRows_36 ?_
      refine px_callVr (C := RX0) (T := TX0) (N := 10) (st := [.int (nI (o * 11 + jc)), .ref cs]) (nn := 2) hC (c_cell l E L _ q pp jc (hq.up hqc) hc.self h2 (by omega)) (hq.up hqc) rfl gX0_swapRows_X0_cell rfl (by decide +kernel) (by decide) (Nat.le_of_ble_eq_true rfl) (by decide) rfl rfl dX0_swapRows_37 (fun z2 f2 hz2 => ?_)
      obtain ⟨rfl, rfl⟩ := hz2
      refine px_aastJ hC hc.self (hxb.up hbc) (by omega) (by first | decide | assumption | omega) dX0_swapRows_40 ?_
      rw [px_uu]
      refine px_aload_n hC 0 rfl dX0_swapRows_41 ?_
      refine px_get (C := RX0) (T := TX0) (N := 10) hC (hq.up hqc) rfl kkX0_swapRows_X0 0 (by decide) flX0_swapRows_13 rfl dX0_swapRows_42 ?_
      refine px_iload_n hC 2 rfl dX0_swapRows_45 ?_
      refine px_bipush (v := nI 11) hC (by decide) dX0_swapRows_46 ?_
      refine px_imul hC dX0_swapRows_48 ?_
      refine px_iload_n hC 3 rfl dX0_swapRows_49 ?_
      refine px_iadd hC dX0_swapRows_50 ?_
      refine px_ei (y := nI (pp * 11 + jc)) (by rw [pk_mul, nI_add]) ?_
      refine px_aload hC 4 rfl dX0_swapRows_51 ?_
      refine px_aastJ hC hc.self (hxa.up hac) (by omega) (by first | decide | assumption | omega) dX0_swapRows_53 ?_
      rw [px_uu, show va_up (va_up (crS cr o pp jc) (o * 11 + jc) (some z2)) (pp * 11 + jc) (some z) = crS cr o pp (jc + 1) from by rw [← ha, ← hb]; exact crS_s cr hne (by omega)]
      refine px_iinc (v := nI (jc + 1)) (lv' := [(0, .ref q), (1, .int (nI o)), (2, .int (nI pp)), (3, .int (nI (jc + 1))), (4, .ref z)]) hC 3 [1, 2, 3, 0, 4] dX0_swapRows_54 rfl (nI_1 jc) (by decide) rfl ?_
      refine px_goto hC 8 dX0_swapRows_57 (by decide) ?_
      refine px_lv (lv2 := [(0, .ref q), (1, .int (nI o)), (2, .int (nI pp)), (3, .int (nI (jc + 1)))]) [0, 1, 2, 3] rfl ?_
      exact ih (jc + 1) (by omega)
  refine px_iload_n hC 1 rfl dX0_swapRows_0 ?_
  refine px_iload_n hC 2 rfl dX0_swapRows_1 ?_
  refine px_icmp_ne hC 6 dX0_swapRows_2 (by decide) (fun _ => ?_) (fun q9 => absurd q9 (fun e => hne ((nI_eq (by omega) (by omega)).mp e)))
  refine px_iconst (v := nI 0) hC (by decide) dX0_swapRows_6 ?_
  refine px_istore_n (lv' := [(0, .ref q), (1, .int (nI o)), (2, .int (nI pp)), (3, .int (nI 0))]) hC [1, 2, 3, 0] dX0_swapRows_7 (by decide) rfl ?_
  have h0 := loop (n + 1) 0 (by omega)
  rw [crS_0, px_us hc.2] at h0
  exact h0
