/-! ===== sums and differences ===== -/
def pad (x : Nat → Nat) (n : Nat) : Nat → Nat := fun i => if i < n then x i else 0
theorem pad_vl {x : Nat → Nat} {n k : Nat} (h : n ≤ k) : vl 268435456 (pad x n) k = vl 268435456 x n := by
  have e : vl 268435456 (pad x n) (n + (k - n)) = vl 268435456 (pad x n) n + 268435456 ^ n * vl 268435456 (fun i => pad x n (n + i)) (k - n) := vl_a _ _ _ _
  rw [show n + (k - n) = k by omega, vl_c (x := fun i => pad x n (n + i)) (y := fun _ => 0) (fun i _ => by show pad x n (n + i) = 0; unfold pad; rw [if_neg (by omega)]), vl_0, vl_c (x := pad x n) (y := x) (n := n) (fun i hi => by unfold pad; rw [if_pos hi])] at e
  rw [e]; omega
theorem pad_lt {x : Nat → Nat} {n : Nat} (h : ∀ i, i < n → x i < 268435456) (i : Nat) : pad x n i < 268435456 := by
  unfold pad
  by_cases q : i < n
  · rw [if_pos q]; exact h i q
  · rw [if_neg q]; decide
theorem pad_in {x : Nat → Nat} {n i : Nat} (h : i < n) : pad x n i = x i := by unfold pad; rw [if_pos h]
theorem pad_out {x : Nat → Nat} {n i : Nat} (h : ¬ i < n) : pad x n i = 0 := by unfold pad; rw [if_neg h]
theorem nz_sub {a b : Nat} (h : b ≤ a + 2 ^ 32) : nI a - nI b = nI (a + 2 ^ 32 - b) := by
  have h1 : nI (a + 2 ^ 32 - b) + nI b = nI a := by
    rw [nI_add, Nat.sub_add_cancel h]
    apply Int32.toBitVec_inj.mp
    show BitVec.ofNat 32 (a + 2 ^ 32) = BitVec.ofNat 32 a
    apply BitVec.eq_of_toNat_eq
    rw [BitVec.toNat_ofNat, BitVec.toNat_ofNat, Nat.add_mod_right]
  rw [← h1, Int32.add_sub_cancel]
theorem nz_mod (a : Nat) : nI a = nI (a % 2 ^ 32) := by
  apply Int32.toBitVec_inj.mp
  show BitVec.ofNat 32 a = BitVec.ofNat 32 (a % 2 ^ 32)
  apply BitVec.eq_of_toNat_eq
  rw [BitVec.toNat_ofNat, BitVec.toNat_ofNat, Nat.mod_mod]
theorem nz_neg {r : Nat} (h : r < 2 ^ 32) : 0 ≤ nI r ↔ r < 2147483648 := by
  rw [Int32.le_iff_toInt_le, i32_n (nI r), pk_tn h, show (0 : Int32).toInt = 0 from by decide]
  by_cases q : 2147483648 ≤ r
  · rw [if_pos q]; omega
  · rw [if_neg q]; omega
theorem s28 : (((nI 28 : Int32) &&& 31).toBitVec.smod 32).toNat = 28 := by decide
theorem aa_step {a1 a2 P b1 b2 b3 X Y ca : Nat} (hv : b1 + ca * P = b2 + b3) (e1 : (X + Y + ca) * P = (268435456 * a1 + a2) * P) : b1 + a2 * P + a1 * (P * 268435456) = b2 + X * P + (b3 + Y * P) := by
  grind
theorem flX4_addAmount_9 : Cond.fieldLink RX4 9 "RowReductionModel$Great" "parts" "[I" ∈ wsX4_addAmount := by decide +kernel
theorem kkX4_addAmount_X4 : ∀ w ∈ wsX40, w ∈ wsX4_addAmount := fun _ h => List.mem_cons_of_mem _ (List.mem_append_right _ h)
theorem flX4_addAmount_15 : Cond.fieldLink RX4 15 "RowReductionModel$Great" "n" "I" ∈ wsX4_addAmount := by decide +kernel
theorem flX4_addAmount_19 : Cond.fieldLink RX4 19 "RowReductionModel$Great" "minus" "Z" ∈ wsX4_addAmount := by decide +kernel
theorem c_gAdd (l : Launch) (E : px_E) (L : List Nat) (f : Nat → va_E) (g pa g2 pa2 n mi n2 mi2 : Nat) (x y : Nat → Nat) (vv vv2 : Int64) (hS : gS E L f g pa n mi x vv) (hT : gS E L f g2 pa2 n2 mi2 y vv2) (hg : g ≠ g2) (hp : pa ≠ pa2) (hn : n ≤ 39) (hn2 : n2 ≤ 39) (hmi : mi < 2) (hmi2 : mi2 < 2) (hx : ∀ i, i < n → x i < 268435456) (hy : ∀ i, i < n2 → y i < 268435456) : px_M l yX4_addAmount wsX4_addAmount (px_rm 1 21) E L f [.ref g, .ref g2] (px_v L (fun f' => ∃ n' u, n' ≤ 40 ∧ (∀ i, i < n' → u i < 268435456) ∧ (n' ≠ 0 → u (n' - 1) ≠ 0) ∧ vl 268435456 u n' = vl 268435456 x n + vl 268435456 y n2 ∧ f' = va_up (va_up f g (.inr (3, gF pa (nI n') (nI (if n' = 0 then 0 else if n = 0 then 1 - mi2 else mi)) vv))) pa (aI E 40 (iw u)))) := by
  refine px_M.of (cc := cX4_addAmount) (maxL := 6) (ret := none) (lv := [(0, .ref g), (1, .ref g2)]) (by decide) rfl (Nat.le_of_ble_eq_true rfl) rfl ?_
  intro p e s m below meth c A hC hnm
  obtain ⟨Q, hQ⟩ : ∃ Q, Q = MQ below (px_Q E (px_v L (fun f' => ∃ n' u, n' ≤ 40 ∧ (∀ i, i < n' → u i < 268435456) ∧ (n' ≠ 0 → u (n' - 1) ≠ 0) ∧ vl 268435456 u n' = vl 268435456 x n + vl 268435456 y n2 ∧ f' = va_up (va_up f g (.inr (3, gF pa (nI n') (nI (if n' = 0 then 0 else if n = 0 then 1 - mi2 else mi)) vv))) pa (aI E 40 (iw u)))) A) [.ref g, .ref g2].toArray s (px_rm 1 21).cells (px_rm 1 21).slots A := ⟨_, rfl⟩
  rw [← hQ]
  have n1 := hS.ne
  have n3 : g2 ≠ pa := hT.1.nk hS.2 rfl
  have n4 : pa2 ≠ g := fun h => hS.1.nk hT.2 rfl h.symm
  have loop : ∀ (mi' : Nat), mi' = (if n = 0 then 1 - mi2 else mi) → ∀ (d k ca : Nat) (u : Nat → Nat), k + d = max n n2 + 1 → ca < 2 → (k = max n n2 + 1 → ca = 0) → (∀ i, i < k → u i < 268435456) → (∀ i, k ≤ i → u i = x i) → vl 268435456 u k + ca * 268435456 ^ k = vl 268435456 (pad x n) k + vl 268435456 (pad y n2) k → px p l e (px_rm 1 21) s m [.ref g, .ref g2].toArray below meth c 6 E A s.heap L (va_up (va_up f g (.inr (3, gF pa (nI n) (nI mi') vv))) pa (aI E 40 (iw u))) 0 0 Q 40 [(0, .ref g), (1, .ref g2), (2, .int (nI (max n n2))), (3, .int (nI ca)), (4, .int (nI k))] [] := by
    intro mi' hmi' d
    induction d with
    | zero =>
      intro k ca u hk hca hc0 hu hux hv
      have e1 : k = max n n2 + 1 := by omega
      rw [hc0 e1, Nat.zero_mul, Nat.add_zero, pad_vl (by omega), pad_vl (by omega)] at hv
      subst e1
      refine px_iload hC 4 rfl dX4_addAmount_40 ?_
      refine px_iload_n hC 2 rfl dX4_addAmount_42 ?_
      refine px_icmp_gt hC 115 dX4_addAmount_43 (by decide) (fun _ => ?_) (fun q9 => (q9 (nI_lt (by omega) (by omega))).elim)
      refine px_aload_n hC 0 rfl dX4_addAmount_115 ?_
      refine px_iload_n hC 2 rfl dX4_addAmount_116 ?_
      refine px_iconst (v := nI 1) hC (by decide) dX4_addAmount_117 ?_
      refine px_iadd hC dX4_addAmount_118 ?_
      refine px_ei (y := nI (max n n2 + 1)) (nI_add _ _) ?_
      refine px_callVv (C := RX4) (T := TX4) (N := 4) (st := []) (nn := 1) hC (c_trim l E L _ g pa (max n n2 + 1) mi' (nI n) u vv (hS.1.self.up n1) ((hS.2.up (fun h => n1 h.symm)).self) (by omega) hu) (hS.1.self.up n1) rfl gX4_addAmount_X4_trim rfl (by decide +kernel) (by decide) (Nat.le_of_ble_eq_true rfl) (by decide) rfl rfl dX4_addAmount_119 (fun f2 h2 => ?_)
      obtain ⟨n', b1, b2, b3, rfl⟩ := h2
      rw [px_uc _ _ _ (fun h => n1 h.symm), px_uu]
      subst hmi'
      subst hQ
      exact px_vret hC rfl (⟨rfl, rfl, n', u, by omega, fun i hi => hu i (by omega), b3, by rw [b2]; exact hv, rfl⟩) dX4_addAmount_122
    | succ d ih =>
      intro k ca u hk hca hc0 hu hux hv
      have px1 := pad_lt hx k
      have py1 := pad_lt hy k
      have st3 : px p l e (px_rm 1 21) s m [.ref g, .ref g2].toArray below meth c 6 E A s.heap L (va_up (va_up f g (.inr (3, gF pa (nI n) (nI mi') vv))) pa (aI E 40 (iw u))) 0 0 Q 86 [(0, .ref g), (1, .ref g2), (2, .int (nI (max n n2))), (3, .int (nI ca)), (4, .int (nI k))] [.int (nI (pad y n2 k)), .int (nI (pad x n k))] := by
        refine px_iadd hC dX4_addAmount_86 ?_
        refine px_iload_n hC 3 rfl dX4_addAmount_87 ?_
        refine px_iadd hC dX4_addAmount_88 ?_
        refine px_ei (y := nI (pad x n k + pad y n2 k + ca)) (by rw [nI_add, nI_add]) ?_
        generalize hV : pad x n k + pad y n2 k + ca = V
        have hV2 : V < 2 * 268435456 := by omega
        refine px_istore (lv' := [(0, .ref g), (1, .ref g2), (2, .int (nI (max n n2))), (3, .int (nI ca)), (4, .int (nI k)), (5, .int (nI (V)))]) hC [1, 2, 3, 4, 5, 0] dX4_addAmount_89 (by decide) rfl ?_
        refine px_aload_n hC 0 rfl dX4_addAmount_91 ?_
        refine px_get (C := RX4) (T := TX4) (N := 4) hC (hS.1.self.up n1) rfl kkX4_addAmount_X4 0 (by decide) flX4_addAmount_9 rfl dX4_addAmount_92 ?_
        refine px_iload hC 4 rfl dX4_addAmount_95 ?_
        refine px_iload hC 5 rfl dX4_addAmount_97 ?_
        refine px_ldc (v := 268435455) hC dX4_addAmount_99 (by decide +kernel) ?_
        refine px_ei (y := nI 268435455) (by decide) ?_
        refine px_iand hC dX4_addAmount_101 ?_
        refine px_ei (y := nI (V % 268435456)) (pk_andN (by omega) 28 (by decide)) ?_
        refine px_iast hC ((hS.2.up (fun h => n1 h.symm)).self) (by omega) (by first | decide | assumption | omega) dX4_addAmount_102 ?_
        rw [px_uu, iw_up]
        refine px_iload hC 5 rfl dX4_addAmount_103 ?_
        refine px_bipush (v := nI 28) hC (by decide) dX4_addAmount_105 ?_
        refine px_ishr hC dX4_addAmount_107 ?_
        refine px_ei (y := nI (V / 2 ^ 28)) (pk_shrN (by omega) _ 28 s28) ?_
        refine px_istore_n (lv' := [(0, .ref g), (1, .ref g2), (2, .int (nI (max n n2))), (3, .int (nI (V / 2 ^ 28))), (4, .int (nI k)), (5, .int (nI (V)))]) hC [1, 2, 3, 0, 4, 5] dX4_addAmount_108 (by decide) rfl ?_
        refine px_iinc (v := nI (k + 1)) (lv' := [(0, .ref g), (1, .ref g2), (2, .int (nI (max n n2))), (3, .int (nI (V / 2 ^ 28))), (4, .int (nI (k + 1))), (5, .int (nI (V)))]) hC 4 [1, 2, 3, 4, 0, 5] dX4_addAmount_109 rfl (nI_1 k) (by decide) rfl ?_
        refine px_goto hC 40 dX4_addAmount_112 (by decide) ?_
        refine px_lv (lv2 := [(0, .ref g), (1, .ref g2), (2, .int (nI (max n n2))), (3, .int (nI (V / 2 ^ 28))), (4, .int (nI (k + 1)))]) [0, 1, 2, 3, 4] rfl ?_
        refine ih (k + 1) (V / 2 ^ 28) (un u k (V % 268435456)) (by omega) (by omega) (fun h => ?_) (fun i hi => ?_) (fun i hi => ?_) ?_
        · rw [pad_out (show ¬ k < n by omega), pad_out (show ¬ k < n2 by omega)] at hV
          omega
        · by_cases q : i = k
          · subst q; rw [un_s]; exact Nat.mod_lt _ (by decide)
          · rw [un_n _ _ q]; exact hu i (by omega)
        · rw [un_n _ _ (by omega)]; exact hux i (by omega)
        · show vl 268435456 (un u k (V % 268435456)) k + un u k (V % 268435456) k * 268435456 ^ k + V / 2 ^ 28 * 268435456 ^ (k + 1) = vl 268435456 (pad x n) k + pad x n k * 268435456 ^ k + (vl 268435456 (pad y n2) k + pad y n2 k * 268435456 ^ k)
          rw [vl_ug (Nat.le_refl k), un_s, Nat.pow_succ]
          have e1 : (pad x n k + pad y n2 k + ca) * 268435456 ^ k = (268435456 * (V / 268435456) + V % 268435456) * 268435456 ^ k := by rw [hV, Nat.div_add_mod]
          have e2 : V / 2 ^ 28 = V / 268435456 := rfl
          rw [e2]
          exact aa_step hv e1
      have st2 : px p l e (px_rm 1 21) s m [.ref g, .ref g2].toArray below meth c 6 E A s.heap L (va_up (va_up f g (.inr (3, gF pa (nI n) (nI mi') vv))) pa (aI E 40 (iw u))) 0 0 Q 66 [(0, .ref g), (1, .ref g2), (2, .int (nI (max n n2))), (3, .int (nI ca)), (4, .int (nI k))] [.int (nI (pad x n k))] := by
        refine px_iload hC 4 rfl dX4_addAmount_66 ?_
        refine px_aload_n hC 1 rfl dX4_addAmount_68 ?_
        refine px_get (C := RX4) (T := TX4) (N := 4) hC ((hT.1.up (fun h => hg h.symm)).up n3) rfl kkX4_addAmount_X4 1 (by decide) flX4_addAmount_15 rfl dX4_addAmount_69 ?_
        by_cases h2 : k < n2
        · refine px_icmp_ge hC 85 dX4_addAmount_72 (by decide) (fun q9 => absurd q9 (nI_ge h2 (by omega))) (fun _ => ?_)
          refine px_aload_n hC 1 rfl dX4_addAmount_75 ?_
          refine px_get (C := RX4) (T := TX4) (N := 4) hC ((hT.1.up (fun h => hg h.symm)).up n3) rfl kkX4_addAmount_X4 0 (by decide) flX4_addAmount_9 rfl dX4_addAmount_76 ?_
          refine px_iload hC 4 rfl dX4_addAmount_79 ?_
          refine px_iald hC ((hT.2.up n4).up (fun h => hp h.symm)) (by omega) (by first | decide | assumption | omega) dX4_addAmount_81 ?_
          refine px_ei (y := nI (pad y n2 k)) (by rw [pad_in h2]; rfl) ?_
          refine px_goto hC 86 dX4_addAmount_82 (by decide) ?_
          exact st3
        · refine px_icmp_ge hC 85 dX4_addAmount_72 (by decide) (fun _ => ?_) (fun q9 => (q9 (nI_le (by omega) (by omega))).elim)
          refine px_iconst (v := nI 0) hC (by decide) dX4_addAmount_85 ?_
          refine px_ei (y := nI (pad y n2 k)) (by rw [pad_out h2]) ?_
          exact st3
      refine px_iload hC 4 rfl dX4_addAmount_40 ?_
      refine px_iload_n hC 2 rfl dX4_addAmount_42 ?_
      refine px_icmp_gt hC 115 dX4_addAmount_43 (by decide) (fun q9 => absurd q9 (nI_nlt (by omega) (by omega))) (fun _ => ?_)
      refine px_iload hC 4 rfl dX4_addAmount_46 ?_
      refine px_aload_n hC 0 rfl dX4_addAmount_48 ?_
      refine px_get (C := RX4) (T := TX4) (N := 4) hC (hS.1.self.up n1) rfl kkX4_addAmount_X4 1 (by decide) flX4_addAmount_15 rfl dX4_addAmount_49 ?_
      by_cases h2 : k < n
      · refine px_icmp_ge hC 65 dX4_addAmount_52 (by decide) (fun q9 => absurd q9 (nI_ge h2 (by omega))) (fun _ => ?_)
        refine px_aload_n hC 0 rfl dX4_addAmount_55 ?_
        refine px_get (C := RX4) (T := TX4) (N := 4) hC (hS.1.self.up n1) rfl kkX4_addAmount_X4 0 (by decide) flX4_addAmount_9 rfl dX4_addAmount_56 ?_
        refine px_iload hC 4 rfl dX4_addAmount_59 ?_
        refine px_iald hC ((hS.2.up (fun h => n1 h.symm)).self) (by omega) (by first | decide | assumption | omega) dX4_addAmount_61 ?_
        refine px_ei (y := nI (pad x n k)) (by rw [pad_in h2, ← hux k (Nat.le_refl k)]; rfl) ?_
        refine px_goto hC 66 dX4_addAmount_62 (by decide) ?_
        exact st2
      · refine px_icmp_ge hC 65 dX4_addAmount_52 (by decide) (fun _ => ?_) (fun q9 => (q9 (nI_le (by omega) (by omega))).elim)
        refine px_iconst (v := nI 0) hC (by decide) dX4_addAmount_65 ?_
        refine px_ei (y := nI (pad x n k)) (by rw [pad_out h2]) ?_
        exact st2
  have main : ∀ mi' : Nat, mi' = (if n = 0 then 1 - mi2 else mi) → px p l e (px_rm 1 21) s m [.ref g, .ref g2].toArray below meth c 6 E A s.heap L (va_up f g (.inr (3, gF pa (nI n) (nI mi') vv))) 0 0 Q 23 [(0, .ref g), (1, .ref g2)] [] := by
    intro mi' hmi'
    refine px_aload_n hC 0 rfl dX4_addAmount_23 ?_
    refine px_get (C := RX4) (T := TX4) (N := 4) hC hS.1.self rfl kkX4_addAmount_X4 1 (by decide) flX4_addAmount_15 rfl dX4_addAmount_24 ?_
    refine px_aload_n hC 1 rfl dX4_addAmount_27 ?_
    refine px_get (C := RX4) (T := TX4) (N := 4) hC (hT.1.up (fun h => hg h.symm)) rfl kkX4_addAmount_X4 1 (by decide) flX4_addAmount_15 rfl dX4_addAmount_28 ?_
    refine px_mmax hC (by decide +kernel) (by decide +kernel) (by decide +kernel) (by decide +kernel) (by decide) (Nat.le_of_ble_eq_true rfl) (by decide) dX4_addAmount_31 ?_
    refine px_ei (y := nI (max n n2)) (by by_cases h : n < n2; (rw [if_pos ((nI_ltI (by omega) (by omega)).mpr h), Nat.max_eq_right (by omega)]); (rw [if_neg (fun h2 => h ((nI_ltI (by omega) (by omega)).mp h2)), Nat.max_eq_left (by omega)])) ?_
    refine px_istore_n (lv' := [(0, .ref g), (1, .ref g2), (2, .int (nI (max n n2)))]) hC [1, 2, 0] dX4_addAmount_34 (by decide) rfl ?_
    refine px_iconst (v := nI 0) hC (by decide) dX4_addAmount_35 ?_
    refine px_istore_n (lv' := [(0, .ref g), (1, .ref g2), (2, .int (nI (max n n2))), (3, .int (nI 0))]) hC [1, 2, 3, 0] dX4_addAmount_36 (by decide) rfl ?_
    refine px_iconst (v := nI 0) hC (by decide) dX4_addAmount_37 ?_
    refine px_istore (lv' := [(0, .ref g), (1, .ref g2), (2, .int (nI (max n n2))), (3, .int (nI 0)), (4, .int (nI 0))]) hC [1, 2, 3, 4, 0] dX4_addAmount_38 (by decide) rfl ?_
    have h0 := loop mi' hmi' (max n n2 + 1) 0 0 x (by omega) (by decide) (fun h => absurd h (by omega)) (fun i hi => absurd hi (by omega)) (fun i _ => rfl) rfl
    rw [px_us (hS.2.up (fun h => n1 h.symm)).2] at h0
    exact h0
  refine px_aload_n hC 0 rfl dX4_addAmount_0 ?_
  refine px_get (C := RX4) (T := TX4) (N := 4) hC hS.1 rfl kkX4_addAmount_X4 1 (by decide) flX4_addAmount_15 rfl dX4_addAmount_1 ?_
  by_cases h0 : n = 0
  · refine px_if_ne hC 23 dX4_addAmount_4 (by decide) (fun q9 => (q9 (by rw [h0]; rfl)).elim) (fun _ => ?_)
    refine px_aload_n hC 0 rfl dX4_addAmount_7 ?_
    refine px_aload_n hC 1 rfl dX4_addAmount_8 ?_
    refine px_get (C := RX4) (T := TX4) (N := 4) hC hT.1 rfl kkX4_addAmount_X4 2 (by decide) flX4_addAmount_19 rfl dX4_addAmount_9 ?_
    rcases two_of hmi2 with q | q
    · subst q
      refine px_if_ne hC 19 dX4_addAmount_12 (by decide) (fun q9 => (q9 (rfl)).elim) (fun _ => ?_)
      refine px_iconst (v := nI 1) hC (by decide) dX4_addAmount_15 ?_
      refine px_goto hC 20 dX4_addAmount_16 (by decide) ?_
      refine px_put (C := RX4) (T := TX4) (N := 4) (fs' := gF pa (nI n) (nI 1) vv) hC hS.1 rfl kkX4_addAmount_X4 2 (by decide) tyX4 tyX4_ok nmX4 flX4_addAmount_19 rfl (by decide) (by decide) (Nat.le_of_ble_eq_true rfl) rfl dX4_addAmount_20 ?_
      exact main 1 (by rw [if_pos h0])
    · subst q
      refine px_if_ne hC 19 dX4_addAmount_12 (by decide) (fun _ => ?_) (fun q9 => absurd q9 (by decide))
      refine px_iconst (v := nI 0) hC (by decide) dX4_addAmount_19 ?_
      refine px_put (C := RX4) (T := TX4) (N := 4) (fs' := gF pa (nI n) (nI 0) vv) hC hS.1 rfl kkX4_addAmount_X4 2 (by decide) tyX4 tyX4_ok nmX4 flX4_addAmount_19 rfl (by decide) (by decide) (Nat.le_of_ble_eq_true rfl) rfl dX4_addAmount_20 ?_
      exact main 0 (by rw [if_pos h0])
  · refine px_if_ne hC 23 dX4_addAmount_4 (by decide) (fun _ => ?_) (fun q9 => absurd q9 (nI_ne0 (by omega) (by omega)))
    have h9 := main mi (by rw [if_neg h0])
    rw [px_us hS.1.2] at h9
    exact h9
theorem ta_step {a b c ub : Nat} {P b1 b2 b3 : Nat} (hab : b1 + b3 = b2 + ub * P) (h : c * 1 + (b + ub) = a + (if c + b + ub = a then 0 else 268435456)) : (b1 + c * P) + (b3 + b * P) = (b2 + a * P) + (if c + b + ub = a then 0 else 1) * (P * 268435456) := by
  by_cases q : c + b + ub = a
  · rw [if_pos q] at h ⊢
    subst q
    grind
  · rw [if_neg q] at h ⊢
    have e : a + 268435456 = c + b + ub := by omega
    have e2 : (a + 268435456) * P = (c + b + ub) * P := by rw [e]
    grind
theorem ta_dig {a b ub : Nat} (ha : a < 268435456) (hb : b < 268435456) (hu : ub < 2) : (a + 2 ^ 32 - (b + ub)) % 2 ^ 32 < 2 ^ 32 ∧ ((a + 2 ^ 32 - (b + ub)) % 2 ^ 32 < 2147483648 ↔ b + ub ≤ a) ∧ (a + 2 ^ 32 - (b + ub)) % 2 ^ 32 % 268435456 = (if b + ub ≤ a then a - (b + ub) else a + 268435456 - (b + ub)) := by
  by_cases q : b + ub ≤ a
  · rw [if_pos q]; omega
  · rw [if_neg q]; omega
