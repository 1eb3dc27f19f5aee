theorem n0_of {n' : Nat} {u : Nat → Nat} (c3 : n' ≠ 0 → u (n' - 1) ≠ 0) (h : vl 268435456 u n' = 0) : n' = 0 := by
  rcases Nat.eq_zero_or_pos n' with q | q
  · exact q
  · have h7 := gC_top c3 (by omega)
    have h8 : 0 < 268435456 ^ (n' - 1) := Nat.pow_pos (by decide)
    omega
theorem tk_a {v w : Int} {mi mi2 n' X Y : Nat} {u : Nat → Nat} (a4 : mi < 2) (hm : mi = mi2) (a5 : v.natAbs = X) (a6 : mi = 1 ↔ v < 0) (b5 : w.natAbs = Y) (b6 : mi2 = 1 ↔ w < 0) (c1 : n' ≤ 40) (c2 : ∀ i, i < n' → u i < 268435456) (c3 : n' ≠ 0 → u (n' - 1) ≠ 0) (c4 : vl 268435456 u n' + Y = X) : gC n' (if n' = 0 then 0 else mi) u (v - w) := by
  have h0 := n0_of c3
  have h1 : n' = 0 → vl 268435456 u n' = 0 := fun h => by subst h; rfl
  generalize hU : vl 268435456 u n' = U at c4 h0 h1
  subst hm
  refine ⟨c1, c2, c3, ?_, ?_, ?_⟩
  · by_cases q : n' = 0
    · rw [if_pos q]; decide
    · rw [if_neg q]; exact a4
  · rw [hU]; rcases two_of a4 with q | q <;> omega
  · by_cases q : n' = 0
    · rw [if_pos q]; have := h1 q; rcases two_of a4 with q2 | q2 <;> omega
    · rw [if_neg q]; have : U ≠ 0 := fun h => q (h0 h); rcases two_of a4 with q2 | q2 <;> omega
theorem tk_b {v w : Int} {mi mi2 mi' n' X Y : Nat} {u : Nat → Nat} (a4 : mi < 2) (hm : mi = mi2) (hmi' : mi' = 1 - mi) (hn : n' ≠ 0) (a5 : v.natAbs = X) (a6 : mi = 1 ↔ v < 0) (b5 : w.natAbs = Y) (b6 : mi2 = 1 ↔ w < 0) (c1 : n' ≤ 40) (c2 : ∀ i, i < n' → u i < 268435456) (c3 : n' ≠ 0 → u (n' - 1) ≠ 0) (c4 : vl 268435456 u n' + X = Y) : gC n' mi' u (v - w) := by
  have h0 : vl 268435456 u n' ≠ 0 := fun h => hn (n0_of c3 h)
  generalize hU : vl 268435456 u n' = U at c4 h0
  subst hm
  refine ⟨c1, c2, c3, by omega, ?_, ?_⟩
  · rw [hU]; rcases two_of a4 with q | q <;> omega
  · rcases two_of a4 with q | q <;> omega
theorem tk_c {v w : Int} {n mi mi2 n' X Y : Nat} {u : Nat → Nat} (a4 : mi < 2) (b4 : mi2 < 2) (hm : mi ≠ mi2) (z1 : n = 0 ↔ v = 0) (a5 : v.natAbs = X) (a6 : mi = 1 ↔ v < 0) (b5 : w.natAbs = Y) (b6 : mi2 = 1 ↔ w < 0) (c1 : n' ≤ 40) (c2 : ∀ i, i < n' → u i < 268435456) (c3 : n' ≠ 0 → u (n' - 1) ≠ 0) (c4 : vl 268435456 u n' = X + Y) : gC n' (if n' = 0 then 0 else if n = 0 then 1 - mi2 else mi) u (v - w) := by
  have h0 := n0_of c3
  have h1 : n' = 0 → vl 268435456 u n' = 0 := fun h => by subst h; rfl
  generalize hU : vl 268435456 u n' = U at c4 h0 h1
  refine ⟨c1, c2, c3, ?_, ?_, ?_⟩
  · by_cases q : n' = 0
    · rw [if_pos q]; decide
    · rw [if_neg q]
      by_cases q2 : n = 0
      · rw [if_pos q2]; omega
      · rw [if_neg q2]; exact a4
  · rw [hU]; rcases two_of a4 with q | q <;> rcases two_of b4 with r | r <;> omega
  · by_cases q : n' = 0
    · rw [if_pos q]; have := h1 q; rcases two_of a4 with q2 | q2 <;> rcases two_of b4 with r | r <;> omega
    · rw [if_neg q]
      have hU0 : U ≠ 0 := fun h => q (h0 h)
      by_cases q2 : n = 0
      · rw [if_pos q2]; rcases two_of a4 with q3 | q3 <;> rcases two_of b4 with r | r <;> omega
      · rw [if_neg q2]; rcases two_of a4 with q3 | q3 <;> rcases two_of b4 with r | r <;> omega
theorem tb_step {c b ub ub' a P b1 b2 b3 : Nat} (h1 : b1 + b3 = b2 + ub * P) (h2 : c + (b + ub) = a + ub' * 268435456) : b1 + c * P + (b3 + b * P) = b2 + a * P + ub' * (P * 268435456) := by
  have e : (c + (b + ub)) * P = (a + ub' * 268435456) * P := by rw [h2]
  grind
theorem flX4_takeAmount_9 : Cond.fieldLink RX4 9 "RowReductionModel$Great" "parts" "[I" ∈ wsX4_takeAmount := by decide +kernel
theorem kkX4_takeAmount_X4 : ∀ w ∈ wsX40, w ∈ wsX4_takeAmount := fun _ h => List.mem_cons_of_mem _ (List.mem_append_right _ h)
theorem flX4_takeAmount_15 : Cond.fieldLink RX4 15 "RowReductionModel$Great" "n" "I" ∈ wsX4_takeAmount := by decide +kernel
theorem flX4_take_19 : Cond.fieldLink RX4 19 "RowReductionModel$Great" "minus" "Z" ∈ wsX4_take := by decide +kernel
theorem kkX4_take_X4 : ∀ w ∈ wsX40, w ∈ wsX4_take := fun _ h => List.mem_cons_of_mem _ (List.mem_append_right _ h)
theorem flX4_take_15 : Cond.fieldLink RX4 15 "RowReductionModel$Great" "n" "I" ∈ wsX4_take := by decide +kernel
/-- this := this - other -/
theorem c_gTakA (l : Launch) (E : px_E) (L : List Nat) (f : Nat → va_E) (g pa o pa2 n mi n2 mi2 : Nat) (x y : Nat → Nat) (vv vv2 : Int64) (hS : gS E L f g pa n mi x vv) (hT : gS E L f o pa2 n2 mi2 y vv2) (hp : pa ≠ pa2) (hn : n ≤ 40) (hn2 : n2 ≤ 40) (hx : ∀ i, i < n → x i < 268435456) (hy : ∀ i, i < n2 → y i < 268435456) (hnn : n2 ≤ n) (hle : vl 268435456 y n2 ≤ vl 268435456 x n) : px_M l yX4_takeAmount wsX4_takeAmount (px_rm 1 21) E L f [.ref g, .ref g, .ref o] (px_v L (fun f' => ∃ n' u, n' ≤ 40 ∧ (∀ i, i < n' → u i < 268435456) ∧ (n' ≠ 0 → u (n' - 1) ≠ 0) ∧ vl 268435456 u n' + vl 268435456 y n2 = vl 268435456 x n ∧ f' = va_up (va_up f g (.inr (3, gF pa (nI n') (nI (if n' = 0 then 0 else mi)) vv))) pa (aI E 40 (iw u)))) := by
  refine px_M.of (cc := cX4_takeAmount) (maxL := 7) (ret := none) (lv := [(0, .ref g), (1, .ref g), (2, .ref o)]) (by decide) rfl (Nat.le_of_ble_eq_true rfl) rfl ?_
  intro p e s m below meth c A hC hnm
  obtain ⟨Q, hQ⟩ : ∃ Q, Q = MQ below (px_Q E (px_v L (fun f' => ∃ n' u, n' ≤ 40 ∧ (∀ i, i < n' → u i < 268435456) ∧ (n' ≠ 0 → u (n' - 1) ≠ 0) ∧ vl 268435456 u n' + vl 268435456 y n2 = vl 268435456 x n ∧ f' = va_up (va_up f g (.inr (3, gF pa (nI n') (nI (if n' = 0 then 0 else mi)) vv))) pa (aI E 40 (iw u)))) A) [.ref g, .ref g, .ref o].toArray s (px_rm 1 21).cells (px_rm 1 21).slots A := ⟨_, rfl⟩
  rw [← hQ]
  have n1 := hS.ne
  have n3 : o ≠ pa := hT.1.nk hS.2 rfl
  have loop : ∀ (d k ub : Nat) (u : Nat → Nat), k + d = n → ub < 2 → (∀ i, i < k → u i < 268435456) → (∀ i, k ≤ i → u i = x i) → vl 268435456 u k + vl 268435456 (pad y n2) k = vl 268435456 x k + ub * 268435456 ^ k → px p l e (px_rm 1 21) s m [.ref g, .ref g, .ref o].toArray below meth c 7 E A s.heap L (va_up f pa (aI E 40 (iw u))) 0 0 Q 11 [(0, .ref g), (1, .ref g), (2, .ref o), (3, .int (nI n)), (4, .int (nI ub)), (5, .int (nI k))] [] := by
    intro d
    induction d with
    | zero =>
      intro k ub u hk hub hu hux hv
      have e1 : k = n := by omega
      subst e1
      have l1 := vl_lt hu
      rw [pad_vl hnn] at hv
      have e2 : ub = 0 := by
        rcases two_of hub with q | q
        · exact q
        · subst q; omega
      rw [e2, Nat.zero_mul, Nat.add_zero] at hv
      refine px_iload hC 5 rfl dX4_takeAmount_11 ?_
      refine px_iload_n hC 3 rfl dX4_takeAmount_13 ?_
      refine px_icmp_ge hC 80 dX4_takeAmount_14 (by decide) (fun _ => ?_) (fun q9 => (q9 (nI_le (Nat.le_refl k) (by omega))).elim)
      refine px_aload_n hC 0 rfl dX4_takeAmount_80 ?_
      refine px_iload_n hC 3 rfl dX4_takeAmount_81 ?_
      refine px_callVv (C := RX4) (T := TX4) (N := 4) (st := []) (nn := 1) hC (c_trim l E L _ g pa k mi (nI k) u vv (hS.1.up n1) hS.2.self (by omega) hu) (hS.1.up n1) rfl gX4_takeAmount_X4_trim rfl (by decide +kernel) (by decide) (Nat.le_of_ble_eq_true rfl) (by decide) rfl rfl dX4_takeAmount_82 (fun f2 h2 => ?_)
      obtain ⟨n', b1, b2, b3, rfl⟩ := h2
      rw [px_uc _ _ _ (fun h => n1 h.symm)]
      subst hQ
      exact px_vret hC rfl (⟨rfl, rfl, n', u, by omega, fun i hi => hu i (by omega), b3, by rw [b2]; exact hv, rfl⟩) dX4_takeAmount_85
    | succ d ih =>
      intro k ub u hk hub hu hux hv
      have pG := hx k (by omega)
      have pH := pad_lt hy k
      obtain ⟨t1, t2, t3⟩ := ta_dig pG pH hub
      have st2 : px p l e (px_rm 1 21) s m [.ref g, .ref g, .ref o].toArray below meth c 7 E A s.heap L (va_up f pa (aI E 40 (iw u))) 0 0 Q 44 [(0, .ref g), (1, .ref g), (2, .ref o), (3, .int (nI n)), (4, .int (nI ub)), (5, .int (nI k))] [.int (nI (pad y n2 k)), .int (nI (x k))] := by
        refine px_isub hC dX4_takeAmount_44 ?_
        refine px_iload hC 4 rfl dX4_takeAmount_45 ?_
        refine px_isub hC dX4_takeAmount_47 ?_
        refine px_ei (y := nI ((x k + 2 ^ 32 - (pad y n2 k + ub)) % 2 ^ 32)) (by rw [nz_sub (by omega), nz_sub (by omega), nz_mod]; exact congrArg nI (by omega)) ?_
        generalize hV : (x k + 2 ^ 32 - (pad y n2 k + ub)) % 2 ^ 32 = V at t1 t2 t3 ⊢
        have fin : ∀ ub' : Nat, ub' = (if pad y n2 k + ub ≤ x k then 0 else 1) → px p l e (px_rm 1 21) s m [.ref g, .ref g, .ref o].toArray below meth c 7 E A s.heap L (va_up f pa (aI E 40 (iw u))) 0 0 Q 60 [(0, .ref g), (1, .ref g), (2, .ref o), (3, .int (nI n)), (4, .int (nI ub)), (5, .int (nI k)), (6, .int (nI V))] [.int (nI ub')] := by
          intro ub' hub'
          refine px_istore (lv' := [(0, .ref g), (1, .ref g), (2, .ref o), (3, .int (nI n)), (4, .int (nI ub')), (5, .int (nI k)), (6, .int (nI V))]) hC [1, 2, 3, 4, 0, 5, 6] dX4_takeAmount_60 (by decide) rfl ?_
          refine px_aload_n hC 0 rfl dX4_takeAmount_62 ?_
          refine px_get (C := RX4) (T := TX4) (N := 4) hC (hS.1.up n1) rfl kkX4_takeAmount_X4 0 (by decide) flX4_takeAmount_9 rfl dX4_takeAmount_63 ?_
          refine px_iload hC 5 rfl dX4_takeAmount_66 ?_
          refine px_iload hC 6 rfl dX4_takeAmount_68 ?_
          refine px_ldc (v := 268435455) hC dX4_takeAmount_70 (by decide +kernel) ?_
          refine px_ei (y := nI 268435455) (by decide) ?_
          refine px_iand hC dX4_takeAmount_72 ?_
          refine px_ei (y := nI (V % 268435456)) (pk_andN (by omega) 28 (by decide)) ?_
          refine px_iast hC hS.2.self (by omega) (by first | decide | assumption | omega) dX4_takeAmount_73 ?_
          rw [px_uu, iw_up]
          refine px_iinc (v := nI (k + 1)) (lv' := [(0, .ref g), (1, .ref g), (2, .ref o), (3, .int (nI n)), (4, .int (nI ub')), (5, .int (nI (k + 1))), (6, .int (nI V))]) hC 5 [1, 2, 3, 4, 5, 0, 6] dX4_takeAmount_74 rfl (nI_1 k) (by decide) rfl ?_
          refine px_goto hC 11 dX4_takeAmount_77 (by decide) ?_
          refine px_lv (lv2 := [(0, .ref g), (1, .ref g), (2, .ref o), (3, .int (nI n)), (4, .int (nI ub')), (5, .int (nI (k + 1)))]) [0, 1, 2, 3, 4, 5] rfl ?_
          have hc : V % 268435456 + (pad y n2 k + ub) = x k + ub' * 268435456 := by
            rw [t3, hub']
            by_cases q : pad y n2 k + ub ≤ x k
            · rw [if_pos q, if_pos q]; omega
            · rw [if_neg q, if_neg q]; omega
          refine ih (k + 1) ub' (un u k (V % 268435456)) (by omega) (by rw [hub']; by_cases q : pad y n2 k + ub ≤ x k; (rw [if_pos q]; decide); (rw [if_neg q]; decide)) (fun i hi => ?_) (fun i hi => ?_) ?_
          · by_cases q : i = k
            · subst q; rw [un_s]; exact Nat.mod_lt _ (by decide)
            · rw [un_n _ _ q]; exact hu i (by omega)
          · rw [un_n _ _ (by omega)]; exact hux i (by omega)
          · show vl 268435456 (un u k (V % 268435456)) k + un u k (V % 268435456) k * 268435456 ^ k + (vl 268435456 (pad y n2) k + pad y n2 k * 268435456 ^ k) = vl 268435456 x k + x k * 268435456 ^ k + ub' * 268435456 ^ (k + 1)
            rw [vl_ug (Nat.le_refl k), un_s, Nat.pow_succ]
            exact tb_step hv hc
        refine px_istore (lv' := [(0, .ref g), (1, .ref g), (2, .ref o), (3, .int (nI n)), (4, .int (nI ub)), (5, .int (nI k)), (6, .int (nI (V)))]) hC [1, 2, 3, 4, 5, 6, 0] dX4_takeAmount_48 (by decide) rfl ?_
        refine px_iload hC 6 rfl dX4_takeAmount_50 ?_
        by_cases q : pad y n2 k + ub ≤ x k
        · refine px_if_ge hC 59 dX4_takeAmount_52 (by decide) (fun _ => ?_) (fun q9 => (q9 ((nz_neg t1).mpr (t2.mpr q))).elim)
          refine px_iconst (v := nI 0) hC (by decide) dX4_takeAmount_59 ?_
          exact fin 0 (by rw [if_pos q])
        · refine px_if_ge hC 59 dX4_takeAmount_52 (by decide) (fun q9 => absurd q9 (fun h => q (t2.mp ((nz_neg t1).mp h)))) (fun _ => ?_)
          refine px_iconst (v := nI 1) hC (by decide) dX4_takeAmount_55 ?_
          refine px_goto hC 60 dX4_takeAmount_56 (by decide) ?_
          exact fin 1 (by rw [if_neg q])
      refine px_iload hC 5 rfl dX4_takeAmount_11 ?_
      refine px_iload_n hC 3 rfl dX4_takeAmount_13 ?_
      refine px_icmp_ge hC 80 dX4_takeAmount_14 (by decide) (fun q9 => absurd q9 (nI_ge (by omega) (by omega))) (fun _ => ?_)
      refine px_aload_n hC 1 rfl dX4_takeAmount_17 ?_
      refine px_get (C := RX4) (T := TX4) (N := 4) hC (hS.1.up n1) rfl kkX4_takeAmount_X4 0 (by decide) flX4_takeAmount_9 rfl dX4_takeAmount_18 ?_
      refine px_iload hC 5 rfl dX4_takeAmount_21 ?_
      refine px_iald hC hS.2.self (by omega) (by first | decide | assumption | omega) dX4_takeAmount_23 ?_
      refine px_ei (y := nI (x k)) (by rw [← hux k (Nat.le_refl k)]; rfl) ?_
      refine px_iload hC 5 rfl dX4_takeAmount_24 ?_
      refine px_aload_n hC 2 rfl dX4_takeAmount_26 ?_
      refine px_get (C := RX4) (T := TX4) (N := 4) hC (hT.1.up n3) rfl kkX4_takeAmount_X4 1 (by decide) flX4_takeAmount_15 rfl dX4_takeAmount_27 ?_
      by_cases h2 : k < n2
      · refine px_icmp_ge hC 43 dX4_takeAmount_30 (by decide) (fun q9 => absurd q9 (nI_ge h2 (by omega))) (fun _ => ?_)
        refine px_aload_n hC 2 rfl dX4_takeAmount_33 ?_
        refine px_get (C := RX4) (T := TX4) (N := 4) hC (hT.1.up n3) rfl kkX4_takeAmount_X4 0 (by decide) flX4_takeAmount_9 rfl dX4_takeAmount_34 ?_
        refine px_iload hC 5 rfl dX4_takeAmount_37 ?_
        refine px_iald hC (hT.2.up (fun h => hp h.symm)) (by omega) (by first | decide | assumption | omega) dX4_takeAmount_39 ?_
        refine px_ei (y := nI (pad y n2 k)) (by rw [pad_in h2]; rfl) ?_
        refine px_goto hC 44 dX4_takeAmount_40 (by decide) ?_
        exact st2
      · refine px_icmp_ge hC 43 dX4_takeAmount_30 (by decide) (fun _ => ?_) (fun q9 => (q9 (nI_le (by omega) (by omega))).elim)
        refine px_iconst (v := nI 0) hC (by decide) dX4_takeAmount_43 ?_
        refine px_ei (y := nI (pad y n2 k)) (by rw [pad_out h2]) ?_
        exact st2
  refine px_aload_n hC 1 rfl dX4_takeAmount_0 ?_
  refine px_get (C := RX4) (T := TX4) (N := 4) hC hS.1 rfl kkX4_takeAmount_X4 1 (by decide) flX4_takeAmount_15 rfl dX4_takeAmount_1 ?_
  refine px_istore_n (lv' := [(0, .ref g), (1, .ref g), (2, .ref o), (3, .int (nI n))]) hC [1, 2, 3, 0] dX4_takeAmount_4 (by decide) rfl ?_
  refine px_iconst (v := nI 0) hC (by decide) dX4_takeAmount_5 ?_
  refine px_istore (lv' := [(0, .ref g), (1, .ref g), (2, .ref o), (3, .int (nI n)), (4, .int (nI 0))]) hC [1, 2, 3, 4, 0] dX4_takeAmount_6 (by decide) rfl ?_
  refine px_iconst (v := nI 0) hC (by decide) dX4_takeAmount_8 ?_
  refine px_istore (lv' := [(0, .ref g), (1, .ref g), (2, .ref o), (3, .int (nI n)), (4, .int (nI 0)), (5, .int (nI 0))]) hC [1, 2, 3, 4, 5, 0] dX4_takeAmount_9 (by decide) rfl ?_
  have h0 := loop n 0 0 x (by omega) (by decide) (fun i hi => absurd hi (by omega)) (fun i _ => rfl) rfl
  rw [px_us hS.2.2] at h0
  exact h0
/-- this := other - this -/
theorem c_gTakB (l : Launch) (E : px_E) (L : List Nat) (f : Nat → va_E) (g pa o pa2 n mi n2 mi2 : Nat) (x y : Nat → Nat) (vv vv2 : Int64) (hS : gS E L f g pa n mi x vv) (hT : gS E L f o pa2 n2 mi2 y vv2) (hp : pa ≠ pa2) (hn : n ≤ 40) (hn2 : n2 ≤ 40) (hx : ∀ i, i < n → x i < 268435456) (hy : ∀ i, i < n2 → y i < 268435456) (hnn : n ≤ n2) (hle : vl 268435456 x n ≤ vl 268435456 y n2) : px_M l yX4_takeAmount wsX4_takeAmount (px_rm 1 21) E L f [.ref g, .ref o, .ref g] (px_v L (fun f' => ∃ n' u, n' ≤ 40 ∧ (∀ i, i < n' → u i < 268435456) ∧ (n' ≠ 0 → u (n' - 1) ≠ 0) ∧ vl 268435456 u n' + vl 268435456 x n = vl 268435456 y n2 ∧ f' = va_up (va_up f g (.inr (3, gF pa (nI n') (nI (if n' = 0 then 0 else mi)) vv))) pa (aI E 40 (iw u)))) := by
  refine px_M.of (cc := cX4_takeAmount) (maxL := 7) (ret := none) (lv := [(0, .ref g), (1, .ref o), (2, .ref g)]) (by decide) rfl (Nat.le_of_ble_eq_true rfl) rfl ?_
  intro p e s m below meth c A hC hnm
  obtain ⟨Q, hQ⟩ : ∃ Q, Q = MQ below (px_Q E (px_v L (fun f' => ∃ n' u, n' ≤ 40 ∧ (∀ i, i < n' → u i < 268435456) ∧ (n' ≠ 0 → u (n' - 1) ≠ 0) ∧ vl 268435456 u n' + vl 268435456 x n = vl 268435456 y n2 ∧ f' = va_up (va_up f g (.inr (3, gF pa (nI n') (nI (if n' = 0 then 0 else mi)) vv))) pa (aI E 40 (iw u)))) A) [.ref g, .ref o, .ref g].toArray s (px_rm 1 21).cells (px_rm 1 21).slots A := ⟨_, rfl⟩
  rw [← hQ]
  have n1 := hS.ne
  have n3 : o ≠ pa := hT.1.nk hS.2 rfl
  have loop : ∀ (d k ub : Nat) (u : Nat → Nat), k + d = n2 → ub < 2 → (∀ i, i < k → u i < 268435456) → (∀ i, k ≤ i → u i = x i) → vl 268435456 u k + vl 268435456 (pad x n) k = vl 268435456 y k + ub * 268435456 ^ k → px p l e (px_rm 1 21) s m [.ref g, .ref o, .ref g].toArray below meth c 7 E A s.heap L (va_up f pa (aI E 40 (iw u))) 0 0 Q 11 [(0, .ref g), (1, .ref o), (2, .ref g), (3, .int (nI n2)), (4, .int (nI ub)), (5, .int (nI k))] [] := by
    intro d
    induction d with
    | zero =>
      intro k ub u hk hub hu hux hv
      have e1 : k = n2 := by omega
      subst e1
      have l1 := vl_lt hu
      rw [pad_vl hnn] at hv
      have e2 : ub = 0 := by
        rcases two_of hub with q | q
        · exact q
        · subst q; omega
      rw [e2, Nat.zero_mul, Nat.add_zero] at hv
      refine px_iload hC 5 rfl dX4_takeAmount_11 ?_
      refine px_iload_n hC 3 rfl dX4_takeAmount_13 ?_
      refine px_icmp_ge hC 80 dX4_takeAmount_14 (by decide) (fun _ => ?_) (fun q9 => (q9 (nI_le (Nat.le_refl k) (by omega))).elim)
      refine px_aload_n hC 0 rfl dX4_takeAmount_80 ?_
      refine px_iload_n hC 3 rfl dX4_takeAmount_81 ?_
      refine px_callVv (C := RX4) (T := TX4) (N := 4) (st := []) (nn := 1) hC (c_trim l E L _ g pa k mi (nI n) u vv (hS.1.up n1) hS.2.self (by omega) hu) (hS.1.up n1) rfl gX4_takeAmount_X4_trim rfl (by decide +kernel) (by decide) (Nat.le_of_ble_eq_true rfl) (by decide) rfl rfl dX4_takeAmount_82 (fun f2 h2 => ?_)
      obtain ⟨n', b1, b2, b3, rfl⟩ := h2
      rw [px_uc _ _ _ (fun h => n1 h.symm)]
      subst hQ
      exact px_vret hC rfl (⟨rfl, rfl, n', u, by omega, fun i hi => hu i (by omega), b3, by rw [b2]; exact hv, rfl⟩) dX4_takeAmount_85
    | succ d ih =>
      intro k ub u hk hub hu hux hv
      have pG := hy k (by omega)
      have pH := pad_lt hx k
      obtain ⟨t1, t2, t3⟩ := ta_dig pG pH hub
      have st2 : px p l e (px_rm 1 21) s m [.ref g, .ref o, .ref g].toArray below meth c 7 E A s.heap L (va_up f pa (aI E 40 (iw u))) 0 0 Q 44 [(0, .ref g), (1, .ref o), (2, .ref g), (3, .int (nI n2)), (4, .int (nI ub)), (5, .int (nI k))] [.int (nI (pad x n k)), .int (nI (y k))] := by
        refine px_isub hC dX4_takeAmount_44 ?_
        refine px_iload hC 4 rfl dX4_takeAmount_45 ?_
        refine px_isub hC dX4_takeAmount_47 ?_
        refine px_ei (y := nI ((y k + 2 ^ 32 - (pad x n k + ub)) % 2 ^ 32)) (by rw [nz_sub (by omega), nz_sub (by omega), nz_mod]; exact congrArg nI (by omega)) ?_
        generalize hV : (y k + 2 ^ 32 - (pad x n k + ub)) % 2 ^ 32 = V at t1 t2 t3 ⊢
        have fin : ∀ ub' : Nat, ub' = (if pad x n k + ub ≤ y k then 0 else 1) → px p l e (px_rm 1 21) s m [.ref g, .ref o, .ref g].toArray below meth c 7 E A s.heap L (va_up f pa (aI E 40 (iw u))) 0 0 Q 60 [(0, .ref g), (1, .ref o), (2, .ref g), (3, .int (nI n2)), (4, .int (nI ub)), (5, .int (nI k)), (6, .int (nI V))] [.int (nI ub')] := by
          intro ub' hub'
          refine px_istore (lv' := [(0, .ref g), (1, .ref o), (2, .ref g), (3, .int (nI n2)), (4, .int (nI ub')), (5, .int (nI k)), (6, .int (nI V))]) hC [1, 2, 3, 4, 0, 5, 6] dX4_takeAmount_60 (by decide) rfl ?_
          refine px_aload_n hC 0 rfl dX4_takeAmount_62 ?_
          refine px_get (C := RX4) (T := TX4) (N := 4) hC (hS.1.up n1) rfl kkX4_takeAmount_X4 0 (by decide) flX4_takeAmount_9 rfl dX4_takeAmount_63 ?_
          refine px_iload hC 5 rfl dX4_takeAmount_66 ?_
          refine px_iload hC 6 rfl dX4_takeAmount_68 ?_
          refine px_ldc (v := 268435455) hC dX4_takeAmount_70 (by decide +kernel) ?_
          refine px_ei (y := nI 268435455) (by decide) ?_
          refine px_iand hC dX4_takeAmount_72 ?_
          refine px_ei (y := nI (V % 268435456)) (pk_andN (by omega) 28 (by decide)) ?_
          refine px_iast hC hS.2.self (by omega) (by first | decide | assumption | omega) dX4_takeAmount_73 ?_
          rw [px_uu, iw_up]
          refine px_iinc (v := nI (k + 1)) (lv' := [(0, .ref g), (1, .ref o), (2, .ref g), (3, .int (nI n2)), (4, .int (nI ub')), (5, .int (nI (k + 1))), (6, .int (nI V))]) hC 5 [1, 2, 3, 4, 5, 0, 6] dX4_takeAmount_74 rfl (nI_1 k) (by decide) rfl ?_
          refine px_goto hC 11 dX4_takeAmount_77 (by decide) ?_
          refine px_lv (lv2 := [(0, .ref g), (1, .ref o), (2, .ref g), (3, .int (nI n2)), (4, .int (nI ub')), (5, .int (nI (k + 1)))]) [0, 1, 2, 3, 4, 5] rfl ?_
          have hc : V % 268435456 + (pad x n k + ub) = y k + ub' * 268435456 := by
            rw [t3, hub']
            by_cases q : pad x n k + ub ≤ y k
            · rw [if_pos q, if_pos q]; omega
            · rw [if_neg q, if_neg q]; omega
          refine ih (k + 1) ub' (un u k (V % 268435456)) (by omega) (by rw [hub']; by_cases q : pad x n k + ub ≤ y k; (rw [if_pos q]; decide); (rw [if_neg q]; decide)) (fun i hi => ?_) (fun i hi => ?_) ?_
          · by_cases q : i = k
            · subst q; rw [un_s]; exact Nat.mod_lt _ (by decide)
            · rw [un_n _ _ q]; exact hu i (by omega)
          · rw [un_n _ _ (by omega)]; exact hux i (by omega)
          · show vl 268435456 (un u k (V % 268435456)) k + un u k (V % 268435456) k * 268435456 ^ k + (vl 268435456 (pad x n) k + pad x n k * 268435456 ^ k) = vl 268435456 y k + y k * 268435456 ^ k + ub' * 268435456 ^ (k + 1)
            rw [vl_ug (Nat.le_refl k), un_s, Nat.pow_succ]
            exact tb_step hv hc
        refine px_istore (lv' := [(0, .ref g), (1, .ref o), (2, .ref g), (3, .int (nI n2)), (4, .int (nI ub)), (5, .int (nI k)), (6, .int (nI (V)))]) hC [1, 2, 3, 4, 5, 6, 0] dX4_takeAmount_48 (by decide) rfl ?_
        refine px_iload hC 6 rfl dX4_takeAmount_50 ?_
        by_cases q : pad x n k + ub ≤ y k
        · refine px_if_ge hC 59 dX4_takeAmount_52 (by decide) (fun _ => ?_) (fun q9 => (q9 ((nz_neg t1).mpr (t2.mpr q))).elim)
          refine px_iconst (v := nI 0) hC (by decide) dX4_takeAmount_59 ?_
          exact fin 0 (by rw [if_pos q])
        · refine px_if_ge hC 59 dX4_takeAmount_52 (by decide) (fun q9 => absurd q9 (fun h => q (t2.mp ((nz_neg t1).mp h)))) (fun _ => ?_)
          refine px_iconst (v := nI 1) hC (by decide) dX4_takeAmount_55 ?_
          refine px_goto hC 60 dX4_takeAmount_56 (by decide) ?_
          exact fin 1 (by rw [if_neg q])
      refine px_iload hC 5 rfl dX4_takeAmount_11 ?_
      refine px_iload_n hC 3 rfl dX4_takeAmount_13 ?_
      refine px_icmp_ge hC 80 dX4_takeAmount_14 (by decide) (fun q9 => absurd q9 (nI_ge (by omega) (by omega))) (fun _ => ?_)
      refine px_aload_n hC 1 rfl dX4_takeAmount_17 ?_
      refine px_get (C := RX4) (T := TX4) (N := 4) hC (hT.1.up n3) rfl kkX4_takeAmount_X4 0 (by decide) flX4_takeAmount_9 rfl dX4_takeAmount_18 ?_
      refine px_iload hC 5 rfl dX4_takeAmount_21 ?_
      refine px_iald hC (hT.2.up (fun h => hp h.symm)) (by omega) (by first | decide | assumption | omega) dX4_takeAmount_23 ?_
      refine px_ei (y := nI (y k)) (rfl) ?_
      refine px_iload hC 5 rfl dX4_takeAmount_24 ?_
      refine px_aload_n hC 2 rfl dX4_takeAmount_26 ?_
      refine px_get (C := RX4) (T := TX4) (N := 4) hC (hS.1.up n1) rfl kkX4_takeAmount_X4 1 (by decide) flX4_takeAmount_15 rfl dX4_takeAmount_27 ?_
      by_cases h2 : k < n
      · refine px_icmp_ge hC 43 dX4_takeAmount_30 (by decide) (fun q9 => absurd q9 (nI_ge h2 (by omega))) (fun _ => ?_)
        refine px_aload_n hC 2 rfl dX4_takeAmount_33 ?_
        refine px_get (C := RX4) (T := TX4) (N := 4) hC (hS.1.up n1) rfl kkX4_takeAmount_X4 0 (by decide) flX4_takeAmount_9 rfl dX4_takeAmount_34 ?_
        refine px_iload hC 5 rfl dX4_takeAmount_37 ?_
        refine px_iald hC hS.2.self (by omega) (by first | decide | assumption | omega) dX4_takeAmount_39 ?_
        refine px_ei (y := nI (pad x n k)) (by rw [pad_in h2, ← hux k (Nat.le_refl k)]; rfl) ?_
        refine px_goto hC 44 dX4_takeAmount_40 (by decide) ?_
        exact st2
      · refine px_icmp_ge hC 43 dX4_takeAmount_30 (by decide) (fun _ => ?_) (fun q9 => (q9 (nI_le (by omega) (by omega))).elim)
        refine px_iconst (v := nI 0) hC (by decide) dX4_takeAmount_43 ?_
        refine px_ei (y := nI (pad x n k)) (by rw [pad_out h2]) ?_
        exact st2
  refine px_aload_n hC 1 rfl dX4_takeAmount_0 ?_
  refine px_get (C := RX4) (T := TX4) (N := 4) hC hT.1 rfl kkX4_takeAmount_X4 1 (by decide) flX4_takeAmount_15 rfl dX4_takeAmount_1 ?_
  refine px_istore_n (lv' := [(0, .ref g), (1, .ref o), (2, .ref g), (3, .int (nI n2))]) hC [1, 2, 3, 0] dX4_takeAmount_4 (by decide) rfl ?_
  refine px_iconst (v := nI 0) hC (by decide) dX4_takeAmount_5 ?_
  refine px_istore (lv' := [(0, .ref g), (1, .ref o), (2, .ref g), (3, .int (nI n2)), (4, .int (nI 0))]) hC [1, 2, 3, 4, 0] dX4_takeAmount_6 (by decide) rfl ?_
  refine px_iconst (v := nI 0) hC (by decide) dX4_takeAmount_8 ?_
  refine px_istore (lv' := [(0, .ref g), (1, .ref o), (2, .ref g), (3, .int (nI n2)), (4, .int (nI 0)), (5, .int (nI 0))]) hC [1, 2, 3, 4, 5, 0] dX4_takeAmount_9 (by decide) rfl ?_
  have h0 := loop n2 0 0 x (by omega) (by decide) (fun i hi => absurd hi (by omega)) (fun i _ => rfl) rfl
  rw [px_us hS.2.2] at h0
  exact h0
theorem c_gTake (l : Launch) (E : px_E) (L : List Nat) (f : Nat → va_E) (g pa g2 pa2 : Nat) {v w : Int} {n mi n2 mi2 : Nat} {x y : Nat → Nat} {vv vv2 : Int64} (hS : gS E L f g pa n mi x vv) (hC1 : gC n mi x v) (hT : gS E L f g2 pa2 n2 mi2 y vv2) (hC2 : gC n2 mi2 y w) (hg : g ≠ g2) (hp : pa ≠ pa2) (hn : n ≤ 39) (hn2 : n2 ≤ 39) : px_M l yX4_take wsX4_take (px_rm 2 47) E L f [.ref g, .ref g2] (px_v L (fun f' => ∃ n' mi' u, gC n' mi' u (v - w) ∧ f' = va_up (va_up f g (.inr (3, gF pa (nI n') (nI mi') vv))) pa (aI E 40 (iw u)))) := by
  refine px_M.of (cc := cX4_take) (maxL := 2) (ret := none) (lv := [(0, .ref g), (1, .ref g2)]) (by decide) rfl (Nat.le_of_ble_eq_true rfl) rfl ?_
  intro p e s m below meth c A hC hnm
  obtain ⟨Q, hQ⟩ : ∃ Q, Q = MQ below (px_Q E (px_v L (fun f' => ∃ n' mi' u, gC n' mi' u (v - w) ∧ f' = va_up (va_up f g (.inr (3, gF pa (nI n') (nI mi') vv))) pa (aI E 40 (iw u)))) A) [.ref g, .ref g2].toArray s (px_rm 2 47).cells (px_rm 2 47).slots A := ⟨_, rfl⟩
  rw [← hQ]
  have n1 := hS.ne
  obtain ⟨a1, a2, a3, a4, a5, a6⟩ := id hC1
  obtain ⟨b1, b2, b3, b4, b5, b6⟩ := id hC2
  have z1 := gC_0 hC1
  have z2 := gC_0 hC2
  refine px_aload_n hC 0 rfl dX4_take_0 ?_
  refine px_get (C := RX4) (T := TX4) (N := 4) hC hS.1 rfl kkX4_take_X4 2 (by decide) flX4_take_19 rfl dX4_take_1 ?_
  refine px_aload_n hC 1 rfl dX4_take_4 ?_
  refine px_get (C := RX4) (T := TX4) (N := 4) hC hT.1 rfl kkX4_take_X4 2 (by decide) flX4_take_19 rfl dX4_take_5 ?_
  by_cases hm : mi = mi2
  · refine px_icmp_eq hC 17 dX4_take_8 (by decide) (fun _ => ?_) (fun q9 => (q9 (by rw [hm])).elim)
    refine px_aload_n hC 0 rfl dX4_take_17 ?_
    refine px_aload_n hC 1 rfl dX4_take_18 ?_
    refine px_callVi (C := RX4) (T := TX4) (N := 4) (st := []) (nn := 1) hC (c_gCmp l E L f g pa g2 pa2 n mi n2 mi2 x y vv vv2 hS hT a1 b1 a2 b2 a3 b3) hS.1 rfl gX4_take_X4_compare rfl (by decide +kernel) (by decide) (Nat.le_of_ble_eq_true rfl) (by decide) rfl rfl dX4_take_19 (fun z f1 hz => ?_)
    obtain ⟨rfl, hz⟩ := hz
    have big : (0 ≤ z ∧ vl 268435456 y n2 ≤ vl 268435456 x n) ∨ (z = (-1) ∧ vl 268435456 x n < vl 268435456 y n2) := by
      rcases hz with ⟨rfl, h⟩ | ⟨rfl, h⟩ | ⟨rfl, h⟩
      · exact Or.inl ⟨by decide, by omega⟩
      · exact Or.inl ⟨by decide, by omega⟩
      · exact Or.inr ⟨rfl, h⟩
    rcases big with ⟨h0, h⟩ | ⟨h0, h⟩
    · have hnn : n2 ≤ n := gC_len b3 (Nat.lt_of_le_of_lt h (vl_lt a2))
      refine px_if_lt hC 32 dX4_take_22 (by decide) (fun q9 => absurd q9 (Int32.not_lt.mpr h0)) (fun _ => ?_)
      refine px_aload_n hC 0 rfl dX4_take_25 ?_
      refine px_aload_n hC 0 rfl dX4_take_26 ?_
      refine px_aload_n hC 1 rfl dX4_take_27 ?_
      refine px_callVv (C := RX4) (T := TX4) (N := 4) (st := []) (nn := 2) hC (c_gTakA l E L _ g pa g2 pa2 n mi n2 mi2 x y vv vv2 hS hT hp a1 b1 a2 b2 hnn h) hS.1 rfl gX4_take_X4_takeAmount rfl (by decide +kernel) (by decide) (Nat.le_of_ble_eq_true rfl) (by decide) rfl rfl dX4_take_28 (fun f2 h2 => ?_)
      obtain ⟨n', u, c1, c2, c3, c4, rfl⟩ := h2
      subst hQ
      exact px_vret hC rfl (⟨rfl, rfl, n', _, u, tk_a a4 hm a5 a6 b5 b6 c1 c2 c3 c4, rfl⟩) dX4_take_31
    · have hnn : n ≤ n2 := gC_len a3 (Nat.lt_trans h (vl_lt b2))
      subst h0
      refine px_if_lt hC 32 dX4_take_22 (by decide) (fun _ => ?_) (fun q9 => (q9 (by decide)).elim)
      refine px_aload_n hC 0 rfl dX4_take_32 ?_
      refine px_aload_n hC 1 rfl dX4_take_33 ?_
      refine px_aload_n hC 0 rfl dX4_take_34 ?_
      refine px_callVv (C := RX4) (T := TX4) (N := 4) (st := []) (nn := 2) hC (c_gTakB l E L _ g pa g2 pa2 n mi n2 mi2 x y vv vv2 hS hT hp a1 b1 a2 b2 hnn (by omega)) hS.1 rfl gX4_take_X4_takeAmount rfl (by decide +kernel) (by decide) (Nat.le_of_ble_eq_true rfl) (by decide) rfl rfl dX4_take_35 (fun f2 h2 => ?_)
      obtain ⟨n', u, c1, c2, c3, c4, rfl⟩ := h2
      have hn'0 : n' ≠ 0 := fun q => by subst q; have c5 : 0 + vl 268435456 x n = vl 268435456 y n2 := c4; omega
      rw [if_neg hn'0]
      have hf := hS.1.self (y := .inr (3, gF pa (nI n') (nI mi) vv)) |>.up (y := aI E 40 (iw u)) n1
      have key : ∀ mi' : Nat, mi' = 1 - mi → px p l e (px_rm 2 47) s m [.ref g, .ref g2].toArray below meth c 2 E A s.heap L (va_up (va_up f1 g (.inr (3, gF pa (nI n') (nI mi') vv))) pa (aI E 40 (iw u))) 0 0 Q 54 [(0, .ref g), (1, .ref g2)] [] := by
        intro mi' hmi'
        have hf2 := hS.1.self (y := .inr (3, gF pa (nI n') (nI mi') vv)) |>.up (y := aI E 40 (iw u)) n1
        refine px_aload_n hC 0 rfl dX4_take_54 ?_
        refine px_get (C := RX4) (T := TX4) (N := 4) hC hf2 rfl kkX4_take_X4 1 (by decide) flX4_take_15 rfl dX4_take_55 ?_
        refine px_if_ne hC 66 dX4_take_58 (by decide) (fun _ => ?_) (fun q9 => absurd q9 (nI_ne0 (by omega) (by omega)))
        subst hQ
        exact px_vret hC rfl (⟨rfl, rfl, n', mi', u, tk_b a4 hm hmi' hn'0 a5 a6 b5 b6 c1 c2 c3 c4, rfl⟩) dX4_take_66
      refine px_aload_n hC 0 rfl dX4_take_38 ?_
      refine px_aload_n hC 0 rfl dX4_take_39 ?_
      refine px_get (C := RX4) (T := TX4) (N := 4) hC hf rfl kkX4_take_X4 2 (by decide) flX4_take_19 rfl dX4_take_40 ?_
      rcases two_of a4 with q | q
      · subst q
        refine px_if_ne hC 50 dX4_take_43 (by decide) (fun q9 => (q9 (rfl)).elim) (fun _ => ?_)
        refine px_iconst (v := nI 1) hC (by decide) dX4_take_46 ?_
        refine px_goto hC 51 dX4_take_47 (by decide) ?_
        refine px_put (C := RX4) (T := TX4) (N := 4) (fs' := gF pa (nI n') (nI 1) vv) hC hf rfl kkX4_take_X4 2 (by decide) tyX4 tyX4_ok nmX4 flX4_take_19 rfl (by decide) (by decide) (Nat.le_of_ble_eq_true rfl) rfl dX4_take_51 ?_
        rw [px_uc _ _ _ (fun h => n1 h.symm), px_uu]
        exact key 1 rfl
      · subst q
        refine px_if_ne hC 50 dX4_take_43 (by decide) (fun _ => ?_) (fun q9 => absurd q9 (by decide))
        refine px_iconst (v := nI 0) hC (by decide) dX4_take_50 ?_
        refine px_put (C := RX4) (T := TX4) (N := 4) (fs' := gF pa (nI n') (nI 0) vv) hC hf rfl kkX4_take_X4 2 (by decide) tyX4 tyX4_ok nmX4 flX4_take_19 rfl (by decide) (by decide) (Nat.le_of_ble_eq_true rfl) rfl dX4_take_51 ?_
        rw [px_uc _ _ _ (fun h => n1 h.symm), px_uu]
        exact key 0 rfl
  · refine px_icmp_eq hC 17 dX4_take_8 (by decide) (fun q9 => absurd q9 (fun h => hm (nI_inj2 (by omega) (by omega) h))) (fun _ => ?_)
    refine px_aload_n hC 0 rfl dX4_take_11 ?_
    refine px_aload_n hC 1 rfl dX4_take_12 ?_
    refine px_callVv (C := RX4) (T := TX4) (N := 4) (st := []) (nn := 1) hC (c_gAdd l E L f g pa g2 pa2 n mi n2 mi2 x y vv vv2 hS hT hg hp hn hn2 a4 b4 a2 b2) hS.1 rfl gX4_take_X4_addAmount rfl (by decide +kernel) (by decide) (Nat.le_of_ble_eq_true rfl) (by decide) rfl rfl dX4_take_13 (fun f2 h2 => ?_)
    obtain ⟨n', u, c1, c2, c3, c4, rfl⟩ := h2
    subst hQ
    exact px_vret hC rfl (⟨rfl, rfl, n', _, u, tk_c a4 b4 hm z1 a5 a6 b5 b6 c1 c2 c3 c4, rfl⟩) dX4_take_16
