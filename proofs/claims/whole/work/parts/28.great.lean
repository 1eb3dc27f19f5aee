/-! ===== bits and quotients ===== -/
theorem bt_lo {Z lo hi r : Nat} (hr : r < 28) (hZ : Z = lo + 268435456 * hi) : Z / 2 ^ r % 2 = lo / 2 ^ r % 2 := by
  have e : 2 ^ r * (2 * 2 ^ (27 - r)) = 268435456 := by rw [Nat.mul_comm 2, ← Nat.pow_succ, ← Nat.pow_add, show r + (27 - r).succ = 28 by omega]
  have hp : 0 < 2 ^ r := Nat.pow_pos (by decide)
  rw [hZ, ← e, Nat.mul_assoc, Nat.add_mul_div_left _ _ hp, Nat.mul_assoc, Nat.add_mul_mod_self_left]
theorem bt_vl {x : Nat → Nat} {n b : Nat} (hx : ∀ i, i < n → x i < 268435456) : vl 268435456 x n / 2 ^ b % 2 = (if b / 28 < n then x (b / 28) / 2 ^ (b % 28) % 2 else 0) := by
  have e : 2 ^ b = 268435456 ^ (b / 28) * 2 ^ (b % 28) := by
    rw [show (268435456 : Nat) = 2 ^ 28 from rfl, ← Nat.pow_mul, ← Nat.pow_add]; congr 1; omega
  rw [e, ← Nat.div_div_eq_div_mul]
  by_cases h : b / 28 < n
  · rw [if_pos h, vl_div hx (by omega), show n - b / 28 = (n - b / 28 - 1) + 1 by omega, vl_s1]
    exact bt_lo (hi := vl 268435456 (fun i => x (b / 28 + (1 + i))) (n - b / 28 - 1)) (by omega) rfl
  · have h1 := vl_lt hx
    have h2 : 268435456 ^ n ≤ 268435456 ^ (b / 28) := Nat.pow_le_pow_right (by decide) (by omega)
    rw [if_neg h, Nat.div_eq_of_lt (a := vl 268435456 x n) (b := 268435456 ^ (b / 28)) (by omega), Nat.zero_div]
theorem sm_31 : ∀ n, n < 32 → ((nI n &&& 31).toBitVec.smod 32).toNat = n := by decide +kernel
theorem flX4_isSet_15 : Cond.fieldLink RX4 15 "RowReductionModel$Great" "n" "I" ∈ wsX4_isSet := by decide +kernel
theorem kkX4_isSet_X4 : ∀ w ∈ wsX40, w ∈ wsX4_isSet := fun _ h => List.mem_cons_of_mem _ (List.mem_append_right _ h)
theorem flX4_isSet_9 : Cond.fieldLink RX4 9 "RowReductionModel$Great" "parts" "[I" ∈ wsX4_isSet := by decide +kernel
theorem flX4_twice_15 : Cond.fieldLink RX4 15 "RowReductionModel$Great" "n" "I" ∈ wsX4_twice := by decide +kernel
theorem kkX4_twice_X4 : ∀ w ∈ wsX40, w ∈ wsX4_twice := fun _ h => List.mem_cons_of_mem _ (List.mem_append_right _ h)
theorem flX4_twice_9 : Cond.fieldLink RX4 9 "RowReductionModel$Great" "parts" "[I" ∈ wsX4_twice := by decide +kernel
theorem c_gBit (l : Launch) (E : px_E) (L : List Nat) (f : Nat → va_E) (g pa n mi b : Nat) (x : Nat → Nat) (vv : Int64) (hS : gS E L f g pa n mi x vv) (hn : n ≤ 40) (hx : ∀ i, i < n → x i < 268435456) (hb : b < 2 ^ 30) : px_M l yX4_isSet wsX4_isSet (px_rm 0 0) E L f [.ref g, .int (nI b)] (px_i L (fun z f' => f' = f ∧ z = nI (vl 268435456 x n / 2 ^ b % 2))) := by
  refine px_M.of (cc := cX4_isSet) (maxL := 2) (ret := (some .boolean)) (lv := [(0, .ref g), (1, .int (nI b))]) (by decide) rfl (Nat.le_of_ble_eq_true rfl) rfl ?_
  intro p e s m below meth c A hC hnm
  obtain ⟨Q, hQ⟩ : ∃ Q, Q = MQ below (px_Q E (px_i L (fun z f' => f' = f ∧ z = nI (vl 268435456 x n / 2 ^ b % 2))) A) [.ref g, .int (nI b)].toArray s (px_rm 0 0).cells (px_rm 0 0).slots A := ⟨_, rfl⟩
  rw [← hQ]
  have hbt := bt_vl (b := b) hx
  refine px_iload_n hC 1 rfl dX4_isSet_0 ?_
  refine px_bipush (v := nI 28) hC (by decide) dX4_isSet_1 ?_
  refine px_idiv hC (by decide) dX4_isSet_3 ?_
  refine px_ei (y := nI (b / 28)) (pk_div (by omega) (by decide) (by decide)) ?_
  refine px_aload_n hC 0 rfl dX4_isSet_4 ?_
  refine px_get (C := RX4) (T := TX4) (N := 4) hC hS.1 rfl kkX4_isSet_X4 1 (by decide) flX4_isSet_15 rfl dX4_isSet_5 ?_
  by_cases h : b / 28 < n
  · have hxb := hx _ h
    rw [if_pos h] at hbt
    have hdl : x (b / 28) / 2 ^ (b % 28) ≤ x (b / 28) := Nat.div_le_self _ _
    refine px_icmp_ge hC 35 dX4_isSet_8 (by decide) (fun q9 => absurd q9 (nI_ge h (by omega))) (fun _ => ?_)
    refine px_aload_n hC 0 rfl dX4_isSet_11 ?_
    refine px_get (C := RX4) (T := TX4) (N := 4) hC hS.1 rfl kkX4_isSet_X4 0 (by decide) flX4_isSet_9 rfl dX4_isSet_12 ?_
    refine px_iload_n hC 1 rfl dX4_isSet_15 ?_
    refine px_bipush (v := nI 28) hC (by decide) dX4_isSet_16 ?_
    refine px_idiv hC (by decide) dX4_isSet_18 ?_
    refine px_ei (y := nI (b / 28)) (pk_div (by omega) (by decide) (by decide)) ?_
    refine px_iald hC hS.2 (by omega) (by first | decide | assumption | omega) dX4_isSet_19 ?_
    refine px_iload_n hC 1 rfl dX4_isSet_20 ?_
    refine px_bipush (v := nI 28) hC (by decide) dX4_isSet_21 ?_
    refine px_irem hC (by decide) dX4_isSet_23 ?_
    refine px_ei (y := nI (b % 28)) (pk_rem (by omega) (by decide) (by decide)) ?_
    refine px_ishr hC dX4_isSet_24 ?_
    refine px_ei (y := nI (x (b / 28) / 2 ^ (b % 28))) (pk_shrN (n := x (b / 28)) (by omega) _ (b % 28) (sm_31 _ (by omega))) ?_
    refine px_iconst (v := nI 1) hC (by decide) dX4_isSet_25 ?_
    refine px_iand hC dX4_isSet_26 ?_
    refine px_ei (y := nI (x (b / 28) / 2 ^ (b % 28) % 2)) (pk_andN (by omega) 1 (by decide)) ?_
    refine px_iconst (v := nI 1) hC (by decide) dX4_isSet_27 ?_
    by_cases h2 : x (b / 28) / 2 ^ (b % 28) % 2 = 1
    · refine px_icmp_ne hC 35 dX4_isSet_28 (by decide) (fun q9 => (q9 (by rw [h2])).elim) (fun _ => ?_)
      refine px_iconst (v := nI 1) hC (by decide) dX4_isSet_31 ?_
      refine px_goto hC 36 dX4_isSet_32 (by decide) ?_
      subst hQ
      exact px_zret hC rfl (by decide) (⟨_, rfl, rfl, rfl, by rw [hbt, h2]⟩) dX4_isSet_36
    · refine px_icmp_ne hC 35 dX4_isSet_28 (by decide) (fun _ => ?_) (fun q9 => absurd q9 (fun q => h2 (nI_inj2 (by omega) (by decide) q)))
      refine px_iconst (v := nI 0) hC (by decide) dX4_isSet_35 ?_
      subst hQ
      exact px_zret hC rfl (by decide) (⟨_, rfl, rfl, rfl, by rw [hbt]; exact congrArg nI (by omega)⟩) dX4_isSet_36
  · rw [if_neg h] at hbt
    refine px_icmp_ge hC 35 dX4_isSet_8 (by decide) (fun _ => ?_) (fun q9 => (q9 (nI_le (by omega) (by omega))).elim)
    refine px_iconst (v := nI 0) hC (by decide) dX4_isSet_35 ?_
    subst hQ
    exact px_zret hC rfl (by decide) (⟨_, rfl, rfl, rfl, by rw [hbt]⟩) dX4_isSet_36
theorem tw_step {U ca ca' P u a2 X b0 : Nat} (h0 : U + ca * P = 2 * X + b0) (hv : 2 * u + ca = 268435456 * ca' + a2) : (U + a2 * P) + ca' * (P * 268435456) = 2 * (X + u * P) + b0 := by
  have e : (2 * u + ca) * P = (268435456 * ca' + a2) * P := by rw [hv]
  grind
theorem sh_or {a c : Nat} (hc : c < 2) : a * 2 ||| c = 2 * a + c := by
  have h := Nat.shiftLeft_add_eq_or_of_lt (i := 1) (b := c) (by omega) a
  rw [Nat.shiftLeft_eq, Nat.pow_one] at h
  omega
theorem c_gTwice (l : Launch) (E : px_E) (L : List Nat) (f : Nat → va_E) (g pa n mi b : Nat) (x : Nat → Nat) (vv : Int64) (hS : gS E L f g pa n mi x vv) (hn : n ≤ 39) (hx : ∀ i, i < n → x i < 268435456) (ht : n ≠ 0 → x (n - 1) ≠ 0) (hb : b < 2) : px_M l yX4_twice wsX4_twice (px_rm 0 0) E L f [.ref g, .int (nI b)] (px_v L (fun f' => ∃ n' u, n' ≤ 40 ∧ (∀ i, i < n' → u i < 268435456) ∧ (n' ≠ 0 → u (n' - 1) ≠ 0) ∧ vl 268435456 u n' = 2 * vl 268435456 x n + b ∧ f' = va_up (va_up f g (.inr (3, gF pa (nI n') (nI mi) vv))) pa (aI E 40 (iw u)))) := by
  refine px_M.of (cc := cX4_twice) (maxL := 5) (ret := none) (lv := [(0, .ref g), (1, .int (nI b))]) (by decide) rfl (Nat.le_of_ble_eq_true rfl) rfl ?_
  intro p e s m below meth c A hC hnm
  obtain ⟨Q, hQ⟩ : ∃ Q, Q = MQ below (px_Q E (px_v L (fun f' => ∃ n' u, n' ≤ 40 ∧ (∀ i, i < n' → u i < 268435456) ∧ (n' ≠ 0 → u (n' - 1) ≠ 0) ∧ vl 268435456 u n' = 2 * vl 268435456 x n + b ∧ f' = va_up (va_up f g (.inr (3, gF pa (nI n') (nI mi) vv))) pa (aI E 40 (iw u)))) A) [.ref g, .int (nI b)].toArray s (px_rm 0 0).cells (px_rm 0 0).slots A := ⟨_, rfl⟩
  rw [← hQ]
  have n1 := hS.ne
  have hSu := fun u : Nat → Nat => hS.1.up (y := aI E 40 (iw u)) n1
  have loop : ∀ (d k ca : Nat) (u : Nat → Nat), k + d = n → ca < 2 → (∀ i, i < k → u i < 268435456) → (∀ i, k ≤ i → u i = x i) → (ca = 0 → k ≠ 0 → k = n → u (k - 1) ≠ 0) → vl 268435456 u k + ca * 268435456 ^ k = 2 * vl 268435456 x k + b → px p l e (px_rm 0 0) s m [.ref g, .int (nI b)].toArray below meth c 5 E A s.heap L (va_up f pa (aI E 40 (iw u))) 0 0 Q 12 [(0, .ref g), (1, .int (nI b)), (2, .int (nI ca)), (3, .int (nI k))] [] := by
    intro d
    induction d with
    | zero =>
      intro k ca u hk hca hu hux htop hv
      have ek : k = n := by omega
      subst ek
      refine px_iload_n hC 3 rfl dX4_twice_12 ?_
      refine px_aload_n hC 0 rfl dX4_twice_13 ?_
      refine px_get (C := RX4) (T := TX4) (N := 4) hC (hSu u) rfl kkX4_twice_X4 1 (by decide) flX4_twice_15 rfl dX4_twice_14 ?_
      refine px_icmp_ge hC 55 dX4_twice_17 (by decide) (fun _ => ?_) (fun q9 => (q9 (nI_le (Nat.le_refl k) (by omega))).elim)
      refine px_iload_n hC 2 rfl dX4_twice_55 ?_
      rcases two_of hca with q | q
      · subst q
        refine px_if_le hC 79 dX4_twice_56 (by decide) (fun _ => ?_) (fun q9 => (q9 (by decide)).elim)
        rw [show va_up f pa (aI E 40 (iw u)) = va_up (va_up f g (.inr (3, gF pa (nI k) (nI mi) vv))) pa (aI E 40 (iw u)) from by rw [px_us hS.1.2]]
        subst hQ
        exact px_vret hC rfl (⟨rfl, rfl, k, u, by omega, hu, fun h => htop rfl h rfl, by rw [Nat.zero_mul, Nat.add_zero] at hv; exact hv, rfl⟩) dX4_twice_79
      · subst q
        refine px_if_le hC 79 dX4_twice_56 (by decide) (fun q9 => absurd q9 (by decide)) (fun _ => ?_)
        refine px_aload_n hC 0 rfl dX4_twice_59 ?_
        refine px_get (C := RX4) (T := TX4) (N := 4) hC (hSu u) rfl kkX4_twice_X4 0 (by decide) flX4_twice_9 rfl dX4_twice_60 ?_
        refine px_aload_n hC 0 rfl dX4_twice_63 ?_
        refine px_get (C := RX4) (T := TX4) (N := 4) hC (hSu u) rfl kkX4_twice_X4 1 (by decide) flX4_twice_15 rfl dX4_twice_64 ?_
        refine px_iload_n hC 2 rfl dX4_twice_67 ?_
        refine px_iast hC hS.2.self (by omega) (by first | decide | assumption | omega) dX4_twice_68 ?_
        rw [px_uu, iw_up]
        refine px_aload_n hC 0 rfl dX4_twice_69 ?_
        refine px_dup hC rfl dX4_twice_70 ?_
        refine px_get (C := RX4) (T := TX4) (N := 4) hC (hSu (un u k 1)) rfl kkX4_twice_X4 1 (by decide) flX4_twice_15 rfl dX4_twice_71 ?_
        refine px_iconst (v := nI 1) hC (by decide) dX4_twice_74 ?_
        refine px_iadd hC dX4_twice_75 ?_
        refine px_ei (y := nI (k + 1)) (nI_add _ _) ?_
        refine px_put (C := RX4) (T := TX4) (N := 4) (fs' := gF pa (nI (k + 1)) (nI mi) vv) hC (hSu (un u k 1)) rfl kkX4_twice_X4 1 (by decide) tyX4 tyX4_ok nmX4 flX4_twice_15 rfl rfl rfl (Nat.le_of_ble_eq_true rfl) rfl dX4_twice_76 ?_
        rw [px_uc _ _ _ (fun h => n1 h.symm)]
        subst hQ
        exact px_vret hC rfl (⟨rfl, rfl, k + 1, un u k 1, by omega, fun i hi => by by_cases q2 : i = k; (subst q2; rw [un_s]; decide); (rw [un_n _ _ q2]; exact hu i (by omega)), fun _ => by rw [show k + 1 - 1 = k by omega, un_s]; decide, by show vl 268435456 (un u k 1) k + un u k 1 k * 268435456 ^ k = _; rw [vl_ug (Nat.le_refl k), un_s]; exact hv, rfl⟩) dX4_twice_79
    | succ d ih =>
      intro k ca u hk hca hu hux htop hv
      have hxk := hx k (by omega)
      refine px_iload_n hC 3 rfl dX4_twice_12 ?_
      refine px_aload_n hC 0 rfl dX4_twice_13 ?_
      refine px_get (C := RX4) (T := TX4) (N := 4) hC (hSu u) rfl kkX4_twice_X4 1 (by decide) flX4_twice_15 rfl dX4_twice_14 ?_
      refine px_icmp_ge hC 55 dX4_twice_17 (by decide) (fun q9 => absurd q9 (nI_ge (by omega) (by omega))) (fun _ => ?_)
      refine px_aload_n hC 0 rfl dX4_twice_20 ?_
      refine px_get (C := RX4) (T := TX4) (N := 4) hC (hSu u) rfl kkX4_twice_X4 0 (by decide) flX4_twice_9 rfl dX4_twice_21 ?_
      refine px_iload_n hC 3 rfl dX4_twice_24 ?_
      refine px_iald hC hS.2.self (by omega) (by first | decide | assumption | omega) dX4_twice_25 ?_
      refine px_ei (y := nI (x k)) (by rw [← hux k (Nat.le_refl k)]; rfl) ?_
      refine px_iconst (v := nI 1) hC (by decide) dX4_twice_26 ?_
      refine px_ishl hC dX4_twice_27 ?_
      refine px_ei (y := nI (x k * 2)) (pk_shlN (n := x k) _ 1 (sm_31 1 (by decide)) (by omega)) ?_
      refine px_iload_n hC 2 rfl dX4_twice_28 ?_
      refine px_ior hC dX4_twice_29 ?_
      refine px_ei (y := nI (2 * x k + ca)) (by rw [nI_or (by omega) (by omega), sh_or hca]) ?_
      generalize hV : 2 * x k + ca = V
      refine px_istore (lv' := [(0, .ref g), (1, .int (nI b)), (2, .int (nI ca)), (3, .int (nI k)), (4, .int (nI (V)))]) hC [1, 2, 3, 4, 0] dX4_twice_30 (by decide) rfl ?_
      refine px_aload_n hC 0 rfl dX4_twice_32 ?_
      refine px_get (C := RX4) (T := TX4) (N := 4) hC (hSu u) rfl kkX4_twice_X4 0 (by decide) flX4_twice_9 rfl dX4_twice_33 ?_
      refine px_iload_n hC 3 rfl dX4_twice_36 ?_
      refine px_iload hC 4 rfl dX4_twice_37 ?_
      refine px_ldc (v := 268435455) hC dX4_twice_39 (by decide +kernel) ?_
      refine px_ei (y := nI 268435455) (by decide) ?_
      refine px_iand hC dX4_twice_41 ?_
      refine px_ei (y := nI (V % 268435456)) (pk_andN (by omega) 28 (by decide)) ?_
      refine px_iast hC hS.2.self (by omega) (by first | decide | assumption | omega) dX4_twice_42 ?_
      rw [px_uu, iw_up]
      refine px_iload hC 4 rfl dX4_twice_43 ?_
      refine px_bipush (v := nI 28) hC (by decide) dX4_twice_45 ?_
      refine px_ishr hC dX4_twice_47 ?_
      refine px_ei (y := nI (V / 268435456)) (pk_shrN (by omega) _ 28 s28) ?_
      refine px_istore_n (lv' := [(0, .ref g), (1, .int (nI b)), (2, .int (nI (V / 268435456))), (3, .int (nI k)), (4, .int (nI (V)))]) hC [1, 2, 0, 3, 4] dX4_twice_48 (by decide) rfl ?_
      refine px_iinc (v := nI (k + 1)) (lv' := [(0, .ref g), (1, .int (nI b)), (2, .int (nI (V / 268435456))), (3, .int (nI (k + 1))), (4, .int (nI (V)))]) hC 3 [1, 2, 3, 0, 4] dX4_twice_49 rfl (nI_1 k) (by decide) rfl ?_
      refine px_goto hC 12 dX4_twice_52 (by decide) ?_
      refine px_lv (lv2 := [(0, .ref g), (1, .int (nI b)), (2, .int (nI (V / 268435456))), (3, .int (nI (k + 1)))]) [0, 1, 2, 3] rfl ?_
      refine ih (k + 1) (V / 268435456) (un u k (V % 268435456)) (by omega) (by omega) (fun i hi => ?_) (fun i hi => ?_) (fun h5 _ h6 => ?_) ?_
      · by_cases q : i = k
        · subst q; rw [un_s]; exact Nat.mod_lt _ (by decide)
        · rw [un_n _ _ q]; exact hu i (by omega)
      · rw [un_n _ _ (by omega)]; exact hux i (by omega)
      · have hk0 : x k ≠ 0 := by have := ht (by omega); rw [show n - 1 = k by omega] at this; exact this
        rw [show k + 1 - 1 = k by omega, un_s]
        omega
      · show vl 268435456 (un u k (V % 268435456)) k + un u k (V % 268435456) k * 268435456 ^ k + V / 268435456 * 268435456 ^ (k + 1) = 2 * (vl 268435456 x k + x k * 268435456 ^ k) + b
        rw [vl_ug (Nat.le_refl k), un_s, Nat.pow_succ]
        exact tw_step hv (by rw [hV]; exact (Nat.div_add_mod V 268435456).symm)
  have start : px p l e (px_rm 0 0) s m [.ref g, .int (nI b)].toArray below meth c 5 E A s.heap L (f) 0 0 Q 9 [(0, .ref g), (1, .int (nI b))] [.int (nI b)] := by
    refine px_istore_n (lv' := [(0, .ref g), (1, .int (nI b)), (2, .int (nI b))]) hC [1, 2, 0] dX4_twice_9 (by decide) rfl ?_
    refine px_iconst (v := nI 0) hC (by decide) dX4_twice_10 ?_
    refine px_istore_n (lv' := [(0, .ref g), (1, .int (nI b)), (2, .int (nI b)), (3, .int (nI 0))]) hC [1, 2, 3, 0] dX4_twice_11 (by decide) rfl ?_
    have h0 := loop n 0 b x (by omega) hb (fun i hi => absurd hi (by omega)) (fun i _ => rfl) (fun _ h => absurd rfl h) (by simp [vl])
    rw [px_us hS.2.2] at h0
    exact h0
  refine px_iload_n hC 1 rfl dX4_twice_0 ?_
  rcases two_of hb with q | q
  · subst q
    refine px_if_eq hC 8 dX4_twice_1 (by decide) (fun _ => ?_) (fun q9 => (q9 (rfl)).elim)
    refine px_iconst (v := nI 0) hC (by decide) dX4_twice_8 ?_
    exact start
  · subst q
    refine px_if_eq hC 8 dX4_twice_1 (by decide) (fun q9 => absurd q9 (by decide)) (fun _ => ?_)
    refine px_iconst (v := nI 1) hC (by decide) dX4_twice_4 ?_
    refine px_goto hC 9 dX4_twice_5 (by decide) ?_
    exact start
