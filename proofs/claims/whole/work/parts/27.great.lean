/-! ===== lN to 2^62 under >> and >>> ===== -/
theorem pf_lI {a : Nat} (h : a < 2 ^ 63) : (lN a).toInt = (a : Int) := lg_ofNat_toInt h
theorem pf_shr {a d : Nat} {D : Int64} (hD : (D.toBitVec.smod 64).toNat = d) (h : a < 2 ^ 62) : lN a >>> D = lN (a / 2 ^ d) := by
  have hd : a / 2 ^ d ≤ a := Nat.div_le_self _ _
  apply Int64.toInt_inj.mp
  have e : (lN a >>> D).toInt = (lN a).toInt >>> d := by
    rw [← hD]
    exact BitVec.toInt_sshiftRight ..
  rw [e, Int.shiftRight_eq_div_pow, pf_lI (by omega), pf_lI (by omega)]
  rfl
theorem pf_ushr {a d : Nat} {D : UInt64} (hD : D.toNat % 64 = d) (h : a < 2 ^ 62) : ((lN a).toUInt64 >>> D).toInt64 = lN (a / 2 ^ d) := by
  have hd : a / 2 ^ d ≤ a := Nat.div_le_self _ _
  have e : (lN a).toUInt64 >>> D = UInt64.ofNat (a / 2 ^ d) := UInt64.toNat_inj.mp (by
    rw [UInt64.toNat_shiftRight, hD, Nat.shiftRight_eq_div_pow, UInt64.toNat_ofNat']
    show (UInt64.ofNat a).toNat / 2 ^ d = _
    rw [UInt64.toNat_ofNat', Nat.mod_eq_of_lt (by omega), Nat.mod_eq_of_lt (by omega)])
  rw [e]
  rfl
theorem pf_andw (x : Int64) : ∃ m, m < 2 ^ 32 ∧ x &&& 4294967295 = lN m := ⟨x.toBitVec.toNat % 2 ^ 32, Nat.mod_lt _ (by decide), Int64.toBitVec_inj.mp (BitVec.eq_of_toNat_eq (by
  show (x.toBitVec &&& 4294967295#64).toNat = (BitVec.ofNat 64 (x.toBitVec.toNat % 2 ^ 32)).toNat
  rw [BitVec.toNat_and, show (4294967295#64).toNat = 2 ^ 32 - 1 from by decide, Nat.and_two_pow_sub_one_eq_mod, BitVec.toNat_ofNat]
  omega))⟩
/-! ===== products ===== -/
theorem sl28 : (((nI 28).toInt64 &&& 63).toBitVec.smod 64).toNat = 28 := by decide
theorem vl_cut {u : Nat → Nat} {k w : Nat} (hk : k ≤ w) (h : vl 268435456 u w < 268435456 ^ k) : vl 268435456 u k = vl 268435456 u w := by
  have e : vl 268435456 u w = vl 268435456 u k + 268435456 ^ k * vl 268435456 (fun i => u (k + i)) (w - k) := by rw [← vl_a, show k + (w - k) = w by omega]
  generalize vl 268435456 (fun i => u (k + i)) (w - k) = T at e
  rcases Nat.eq_zero_or_pos T with q | q
  · subst q; rw [Nat.mul_zero] at e; omega
  · have : 268435456 ^ k * 1 ≤ 268435456 ^ k * T := Nat.mul_le_mul_left _ q
    omega
theorem pr_v {a ca p q : Nat} (ha : a < 268435456) (hc : ca < 268435456) (hp : p < 268435456) (hq : q < 268435456) : a + ca + p * q < 2 ^ 62 ∧ (a + ca + p * q) / 268435456 < 268435456 := by
  have h1 : p * q ≤ 268435455 * 268435455 := Nat.mul_le_mul (by omega) (by omega)
  generalize p * q = P at h1 ⊢
  omega
theorem pr_step {U U' ca ca' P u a2 R xi yj S : Nat} (h0 : U + ca * P = R + xi * S) (hu : U' + u * P = U + a2 * P) (hv : u + ca + xi * yj = 268435456 * ca' + a2) : U' + ca' * (P * 268435456) = R + xi * S + xi * yj * P := by
  have e : (u + ca + xi * yj) * P = (268435456 * ca' + a2) * P := by rw [hv]
  grind
theorem pr_sg {v w : Int} {n' X Y mi1 mi2 : Nat} {u : Nat → Nat} (a4 : mi1 < 2) (b4 : mi2 < 2) (a5 : v.natAbs = X) (a6 : mi1 = 1 ↔ v < 0) (b5 : w.natAbs = Y) (b6 : mi2 = 1 ↔ w < 0) (c1 : n' ≤ 40) (c2 : ∀ i, i < n' → u i < 268435456) (c3 : n' ≠ 0 → u (n' - 1) ≠ 0) (c4 : vl 268435456 u n' = X * Y) : gC n' (if n' = 0 then 0 else if mi1 = mi2 then 0 else 1) u (v * w) := by
  have h0 := n0_of c3
  have h1 : n' = 0 → vl 268435456 u n' = 0 := fun h => by subst h; rfl
  refine ⟨c1, c2, c3, ?_, ?_, ?_⟩
  · by_cases q : n' = 0
    · rw [if_pos q]; decide
    · rw [if_neg q]
      by_cases q2 : mi1 = mi2
      · rw [if_pos q2]; decide
      · rw [if_neg q2]; decide
  · rw [c4, Int.natAbs_mul, a5, b5]
  · by_cases q : n' = 0
    · have e : X * Y = 0 := by rw [← c4]; exact h1 q
      have e2 : v * w = 0 := by
        have : (v * w).natAbs = 0 := by rw [Int.natAbs_mul, a5, b5]; exact e
        omega
      rw [if_pos q, e2]; omega
    · have e : X * Y ≠ 0 := fun h => q (h0 (by rw [c4]; exact h))
      have hX : X ≠ 0 := fun h => e (by rw [h, Nat.zero_mul])
      have hY : Y ≠ 0 := fun h => e (by rw [h, Nat.mul_zero])
      rw [if_neg q]
      have hv : v ≠ 0 := by omega
      have hw : w ≠ 0 := by omega
      rcases two_of a4 with q1 | q1 <;> rcases two_of b4 with q2 | q2
      · rw [if_pos (by omega)]
        have := Int.mul_nonneg (show 0 ≤ v by omega) (show 0 ≤ w by omega)
        omega
      · rw [if_neg (by omega)]
        have := Int.mul_neg_of_pos_of_neg (show 0 < v by omega) (show w < 0 by omega)
        omega
      · rw [if_neg (by omega)]
        have := Int.mul_neg_of_neg_of_pos (show v < 0 by omega) (show 0 < w by omega)
        omega
      · rw [if_pos (by omega)]
        have := Int.mul_pos_of_neg_of_neg (show v < 0 by omega) (show w < 0 by omega)
        omega
theorem flX4_product_15 : Cond.fieldLink RX4 15 "RowReductionModel$Great" "n" "I" ∈ wsX4_product := by decide +kernel
theorem kkX4_product_X4 : ∀ w ∈ wsX40, w ∈ wsX4_product := fun _ h => List.mem_cons_of_mem _ (List.mem_append_right _ h)
theorem flX4_product_19 : Cond.fieldLink RX4 19 "RowReductionModel$Great" "minus" "Z" ∈ wsX4_product := by decide +kernel
theorem flX4_product_9 : Cond.fieldLink RX4 9 "RowReductionModel$Great" "parts" "[I" ∈ wsX4_product := by decide +kernel
theorem c_gProd (l : Launch) (E : px_E) (L : List Nat) (f : Nat → va_E) (g pa g1 pa1 g2 pa2 : Nat) {v w : Int} {n0 mi0 n1 mi1 n2 mi2 : Nat} {x0 x y : Nat → Nat} {vv vv1 vv2 : Int64} (hS : gS E L f g pa n0 mi0 x0 vv) (hA : gS E L f g1 pa1 n1 mi1 x vv1) (hC1 : gC n1 mi1 x v) (hB : gS E L f g2 pa2 n2 mi2 y vv2) (hC2 : gC n2 mi2 y w) (hg1 : g ≠ g1) (hg2 : g ≠ g2) (hp1 : pa ≠ pa1) (hp2 : pa ≠ pa2) (hn : n1 + n2 + 1 ≤ 40) (hmi0 : mi0 < 2) : px_M l yX4_product wsX4_product (px_rm 1 21) E L f [.ref g, .ref g1, .ref g2] (px_v L (fun f' => ∃ n' mi' u, gC n' mi' u (v * w) ∧ f' = va_up (va_up f g (.inr (3, gF pa (nI n') (nI mi') vv))) pa (aI E 40 (iw u)))) := by
  refine px_M.of (cc := cX4_product) (maxL := 9) (ret := none) (lv := [(0, .ref g), (1, .ref g1), (2, .ref g2)]) (by decide) rfl (Nat.le_of_ble_eq_true rfl) rfl ?_
  intro p e s m below meth c A hC hnm
  obtain ⟨Q, hQ⟩ : ∃ Q, Q = MQ below (px_Q E (px_v L (fun f' => ∃ n' mi' u, gC n' mi' u (v * w) ∧ f' = va_up (va_up f g (.inr (3, gF pa (nI n') (nI mi') vv))) pa (aI E 40 (iw u)))) A) [.ref g, .ref g1, .ref g2].toArray s (px_rm 1 21).cells (px_rm 1 21).slots A := ⟨_, rfl⟩
  rw [← hQ]
  have e1 := hS.ne
  have e2 : g1 ≠ pa := hA.1.nk hS.2 rfl
  have e3 : g2 ≠ pa := hB.1.nk hS.2 rfl
  obtain ⟨a1, a2, a3, a4, a5, a6⟩ := id hC1
  obtain ⟨b1, b2, b3, b4, b5, b6⟩ := id hC2
  have lx := vl_lt a2
  have ly := vl_lt b2
  have hSu := fun u : Nat → Nat => hS.1.up (y := aI E 40 (iw u)) e1
  have hAu := fun u : Nat → Nat => hA.1.up (y := aI E 40 (iw u)) e2
  have hBu := fun u : Nat → Nat => hB.1.up (y := aI E 40 (iw u)) e3
  have hAp := fun u : Nat → Nat => hA.2.up (y := aI E 40 (iw u)) (fun h => hp1 h.symm)
  have hBp := fun u : Nat → Nat => hB.2.up (y := aI E 40 (iw u)) (fun h => hp2 h.symm)
  -- the rows' end
  have fin : ∀ u : Nat → Nat, (∀ i, i < 40 → u i < 268435456) → vl 268435456 u 40 = vl 268435456 x n1 * vl 268435456 y n2 → px p l e (px_rm 1 21) s m [.ref g, .ref g1, .ref g2].toArray below meth c 9 E A s.heap L (va_up f pa (aI E 40 (iw u))) 0 0 Q 133 [(0, .ref g), (1, .ref g1), (2, .ref g2), (3, .int (nI n1))] [] := by
    intro u hu hv
    have hlt : vl 268435456 x n1 * vl 268435456 y n2 < 268435456 ^ (n1 + n2 + 1) := by
      have q1 : vl 268435456 x n1 * vl 268435456 y n2 ≤ 268435456 ^ n1 * 268435456 ^ n2 := Nat.mul_le_mul (by omega) (by omega)
      rw [← Nat.pow_add] at q1
      have q2 : 268435456 ^ (n1 + n2) < 268435456 ^ (n1 + n2 + 1) := Nat.pow_lt_pow_right (by decide) (by omega)
      omega
    have hcut := vl_cut (u := u) (k := n1 + n2 + 1) (w := 40) hn (by rw [hv]; exact hlt)
    have tail : ∀ mi' : Nat, mi' = (if mi1 = mi2 then 0 else 1) → px p l e (px_rm 1 21) s m [.ref g, .ref g1, .ref g2].toArray below meth c 9 E A s.heap L (va_up (va_up f g (.inr (3, gF pa (nI n0) (nI mi') vv))) pa (aI E 40 (iw u))) 0 0 Q 153 [(0, .ref g), (1, .ref g1), (2, .ref g2), (3, .int (nI n1))] [] := by
      intro mi' hmi'
      have k1 := (hA.1.up (y := .inr (3, gF pa (nI n0) (nI mi') vv)) (fun h => hg1 h.symm)).up (y := aI E 40 (iw u)) e2
      have k2 := (hB.1.up (y := .inr (3, gF pa (nI n0) (nI mi') vv)) (fun h => hg2 h.symm)).up (y := aI E 40 (iw u)) e3
      have k0 := (hS.1.self (y := .inr (3, gF pa (nI n0) (nI mi') vv))).up (y := aI E 40 (iw u)) e1
      refine px_aload_n hC 0 rfl dX4_product_153 ?_
      refine px_bipush (v := nI 40) hC (by decide) dX4_product_154 ?_
      refine px_aload_n hC 1 rfl dX4_product_156 ?_
      refine px_get (C := RX4) (T := TX4) (N := 4) hC k1 rfl kkX4_product_X4 1 (by decide) flX4_product_15 rfl dX4_product_157 ?_
      refine px_aload_n hC 2 rfl dX4_product_160 ?_
      refine px_get (C := RX4) (T := TX4) (N := 4) hC k2 rfl kkX4_product_X4 1 (by decide) flX4_product_15 rfl dX4_product_161 ?_
      refine px_iadd hC dX4_product_164 ?_
      refine px_iconst (v := nI 1) hC (by decide) dX4_product_165 ?_
      refine px_iadd hC dX4_product_166 ?_
      refine px_ei (y := nI (n1 + n2 + 1)) (by rw [nI_add, nI_add]) ?_
      refine px_mmin hC (by decide +kernel) (by decide +kernel) (by decide +kernel) (by decide +kernel) (by decide) (Nat.le_of_ble_eq_true rfl) (by decide) dX4_product_167 ?_
      refine px_ei (y := nI (n1 + n2 + 1)) (by rw [mn_I (by omega) (by omega), Nat.min_eq_right (by omega)]) ?_
      refine px_callVv (C := RX4) (T := TX4) (N := 4) (st := []) (nn := 1) hC (c_trim l E L _ g pa (n1 + n2 + 1) mi' (nI n0) u vv k0 ((hS.2.up (fun h => e1 h.symm)).self) hn (fun i hi => hu i (by omega))) k0 rfl gX4_product_X4_trim rfl (by decide +kernel) (by decide) (Nat.le_of_ble_eq_true rfl) (by decide) rfl rfl dX4_product_170 (fun f2 h2 => ?_)
      obtain ⟨n', c1, c2, c3, rfl⟩ := h2
      rw [px_uc _ _ _ (fun h => e1 h.symm), px_uu]
      subst hmi'
      subst hQ
      exact px_vret hC rfl (⟨rfl, rfl, n', _, u, pr_sg a4 b4 a5 a6 b5 b6 (by omega) (fun i hi => hu i (by omega)) c3 (by rw [c2, hcut, hv]), rfl⟩) dX4_product_173
    refine px_aload_n hC 0 rfl dX4_product_133 ?_
    refine px_aload_n hC 1 rfl dX4_product_134 ?_
    refine px_get (C := RX4) (T := TX4) (N := 4) hC (hAu u) rfl kkX4_product_X4 2 (by decide) flX4_product_19 rfl dX4_product_135 ?_
    refine px_aload_n hC 2 rfl dX4_product_138 ?_
    refine px_get (C := RX4) (T := TX4) (N := 4) hC (hBu u) rfl kkX4_product_X4 2 (by decide) flX4_product_19 rfl dX4_product_139 ?_
    by_cases hm : mi1 = mi2
    · refine px_icmp_eq hC 149 dX4_product_142 (by decide) (fun _ => ?_) (fun q9 => (q9 (by rw [hm])).elim)
      refine px_iconst (v := nI 0) hC (by decide) dX4_product_149 ?_
      refine px_put (C := RX4) (T := TX4) (N := 4) (fs' := gF pa (nI n0) (nI 0) vv) hC (hSu u) rfl kkX4_product_X4 2 (by decide) tyX4 tyX4_ok nmX4 flX4_product_19 rfl (by decide) (by decide) (Nat.le_of_ble_eq_true rfl) rfl dX4_product_150 ?_
      rw [px_uc _ _ _ (fun h => e1 h.symm)]
      exact tail 0 (by rw [if_pos hm])
    · refine px_icmp_eq hC 149 dX4_product_142 (by decide) (fun q9 => absurd q9 (fun h => hm (nI_inj2 (by omega) (by omega) h))) (fun _ => ?_)
      refine px_iconst (v := nI 1) hC (by decide) dX4_product_145 ?_
      refine px_goto hC 150 dX4_product_146 (by decide) ?_
      refine px_put (C := RX4) (T := TX4) (N := 4) (fs' := gF pa (nI n0) (nI 1) vv) hC (hSu u) rfl kkX4_product_X4 2 (by decide) tyX4 tyX4_ok nmX4 flX4_product_19 rfl (by decide) (by decide) (Nat.le_of_ble_eq_true rfl) rfl dX4_product_150 ?_
      rw [px_uc _ _ _ (fun h => e1 h.symm)]
      exact tail 1 (by rw [if_neg hm])
  have outer : ∀ (d i : Nat) (u : Nat → Nat), i + d = n1 → (∀ i, i < 40 → u i < 268435456) → vl 268435456 u 40 = vl 268435456 x i * vl 268435456 y n2 → px p l e (px_rm 1 21) s m [.ref g, .ref g1, .ref g2].toArray below meth c 9 E A s.heap L (va_up f pa (aI E 40 (iw u))) 0 0 Q 23 [(0, .ref g), (1, .ref g1), (2, .ref g2), (3, .int (nI i))] [] := by
    intro d
    induction d with
    | zero =>
      intro i u hi hu hv
      have ei : i = n1 := by omega
      subst ei
      refine px_iload_n hC 3 rfl dX4_product_23 ?_
      refine px_aload_n hC 1 rfl dX4_product_24 ?_
      refine px_get (C := RX4) (T := TX4) (N := 4) hC (hAu u) rfl kkX4_product_X4 1 (by decide) flX4_product_15 rfl dX4_product_25 ?_
      refine px_icmp_ge hC 133 dX4_product_28 (by decide) (fun _ => ?_) (fun q9 => (q9 (nI_le (Nat.le_refl i) (by omega))).elim)
      exact fin u hu hv
    | succ d ih =>
      intro i u hi hu hv
      have hxi := a2 i (by omega)
      have inner : ∀ (t j ca : Nat) (u : Nat → Nat), j + t = n2 + 1 → ca < 268435456 → (∀ i, i < 40 → u i < 268435456) → vl 268435456 u 40 + ca * 268435456 ^ (i + j) = vl 268435456 x i * vl 268435456 y n2 + x i * (268435456 ^ i * vl 268435456 (pad y n2) j) → px p l e (px_rm 1 21) s m [.ref g, .ref g1, .ref g2].toArray below meth c 9 E A s.heap L (va_up f pa (aI E 40 (iw u))) 0 0 Q 37 [(0, .ref g), (1, .ref g1), (2, .ref g2), (3, .int (nI i)), (4, .long (lN ca)), (6, .int (nI j))] [] := by
        intro t
        have done : ∀ (j : Nat) (u : Nat → Nat), n2 ≤ j → j ≤ n2 + 1 → (∀ i, i < 40 → u i < 268435456) → vl 268435456 u 40 + 0 * 268435456 ^ (i + j) = vl 268435456 x i * vl 268435456 y n2 + x i * (268435456 ^ i * vl 268435456 (pad y n2) j) → px p l e (px_rm 1 21) s m [.ref g, .ref g1, .ref g2].toArray below meth c 9 E A s.heap L (va_up f pa (aI E 40 (iw u))) 0 0 Q 37 [(0, .ref g), (1, .ref g1), (2, .ref g2), (3, .int (nI i)), (4, .long (lN 0)), (6, .int (nI j))] [] := by
          intro j u hj hj2 hu hv
          refine px_iload hC 5 rfl dX4_product_37 ?_
          refine px_aload_n hC 2 rfl dX4_product_39 ?_
          refine px_get (C := RX4) (T := TX4) (N := 4) hC (hBu u) rfl kkX4_product_X4 1 (by decide) flX4_product_15 rfl dX4_product_40 ?_
          refine px_icmp_lt hC 53 dX4_product_43 (by decide) (fun q9 => absurd q9 (nI_nlt hj (by omega))) (fun _ => ?_)
          refine px_lload hC 4 rfl dX4_product_46 ?_
          refine px_lconst (v := lN 0) hC (by decide) dX4_product_48 ?_
          refine px_lcmp hC dX4_product_49 ?_
          refine px_if_le hC 127 dX4_product_50 (by decide) (fun _ => ?_) (fun q9 => (q9 (by decide)).elim)
          refine px_iinc (v := nI (i + 1)) (lv' := [(0, .ref g), (1, .ref g1), (2, .ref g2), (3, .int (nI (i + 1))), (4, .long (lN 0)), (6, .int (nI j))]) hC 3 [1, 2, 3, 0, 4, 5] dX4_product_127 rfl (nI_1 i) (by decide) rfl ?_
          refine px_goto hC 23 dX4_product_130 (by decide) ?_
          refine px_lv (lv2 := [(0, .ref g), (1, .ref g1), (2, .ref g2), (3, .int (nI (i + 1)))]) [0, 1, 2, 3] rfl ?_
          refine ih (i + 1) u (by omega) hu ?_
          rw [Nat.zero_mul, Nat.add_zero, pad_vl hj] at hv
          rw [hv]
          show _ = (vl 268435456 x i + x i * 268435456 ^ i) * vl 268435456 y n2
          grind
        induction t with
        | zero =>
          intro j ca u hj hca hu hv
          have ej : j = n2 + 1 := by omega
          subst ej
          have hca0 : ca = 0 := by
            rcases Nat.eq_zero_or_pos ca with q | q
            · exact q
            · have q1 : 1 * 268435456 ^ (i + (n2 + 1)) ≤ ca * 268435456 ^ (i + (n2 + 1)) := Nat.mul_le_mul_right _ q
              rw [pad_vl (by omega)] at hv
              have q2 : vl 268435456 x i * vl 268435456 y n2 + x i * (268435456 ^ i * vl 268435456 y n2) = (vl 268435456 x i + x i * 268435456 ^ i) * vl 268435456 y n2 := by grind
              have q3 : vl 268435456 x (i + 1) < 268435456 ^ (i + 1) := vl_lt (fun k hk => a2 k (by omega))
              have q4 : vl 268435456 x (i + 1) = vl 268435456 x i + x i * 268435456 ^ i := rfl
              have q5 : (vl 268435456 x i + x i * 268435456 ^ i) * vl 268435456 y n2 ≤ 268435456 ^ (i + 1) * vl 268435456 y n2 := Nat.mul_le_mul_right _ (by omega)
              have q6 : 268435456 ^ (i + 1) * (vl 268435456 y n2 + 1) ≤ 268435456 ^ (i + 1) * 268435456 ^ n2 := Nat.mul_le_mul_left _ (by omega)
              rw [← Nat.pow_add, show i + 1 + n2 = i + (n2 + 1) by omega, Nat.mul_add, Nat.mul_one] at q6
              have q7 : 0 < 268435456 ^ (i + 1) := Nat.pow_pos (by decide)
              omega
          subst hca0
          exact done (n2 + 1) u (by omega) (by omega) hu hv
        | succ t iht =>
          intro j ca u hj hca hu hv
          by_cases hex : n2 ≤ j ∧ ca = 0
          · obtain ⟨h1, rfl⟩ := hex
            exact done j u h1 (by omega) hu hv
          have hyj := pad_lt b2 j
          have huij := hu (i + j) (by omega)
          obtain ⟨v1, v2⟩ := pr_v huij hca hxi hyj
          have step : px p l e (px_rm 1 21) s m [.ref g, .ref g1, .ref g2].toArray below meth c 9 E A s.heap L (va_up f pa (aI E 40 (iw u))) 0 0 Q 95 [(0, .ref g), (1, .ref g1), (2, .ref g2), (3, .int (nI i)), (4, .long (lN ca)), (6, .int (nI j))] [.long (lN (x i * pad y n2 j)), .long (lN (u (i + j) + ca))] := by
            refine px_ladd hC dX4_product_95 ?_
            refine px_el (y := lN (u (i + j) + ca + x i * pad y n2 j)) (lN_add _ _) ?_
            generalize hV : u (i + j) + ca + x i * pad y n2 j = V at v1 v2 ⊢
            refine px_lstore (lv' := [(0, .ref g), (1, .ref g1), (2, .ref g2), (3, .int (nI i)), (4, .long (lN ca)), (6, .int (nI j)), (7, .long (lN (V)))]) hC [1, 2, 3, 4, 5, 6, 0] dX4_product_96 (by decide) rfl ?_
            refine px_aload_n hC 0 rfl dX4_product_98 ?_
            refine px_get (C := RX4) (T := TX4) (N := 4) hC (hSu u) rfl kkX4_product_X4 0 (by decide) flX4_product_9 rfl dX4_product_99 ?_
            refine px_iload_n hC 3 rfl dX4_product_102 ?_
            refine px_iload hC 5 rfl dX4_product_103 ?_
            refine px_iadd hC dX4_product_105 ?_
            refine px_ei (y := nI (i + j)) (nI_add _ _) ?_
            refine px_lload hC 6 rfl dX4_product_106 ?_
            refine px_ldc2 (v := 268435455) hC dX4_product_108 (by decide +kernel) ?_
            refine px_el (y := lN 268435455) (by decide) ?_
            refine px_land hC dX4_product_111 ?_
            refine px_el (y := lN (V % 268435456)) (wb_mask (k := 28) (by omega) (by decide)) ?_
            refine px_l2i hC dX4_product_112 ?_
            refine px_ei (y := nI (V % 268435456)) (lN_i _) ?_
            refine px_iast hC hS.2.self (by omega) (by first | decide | assumption | omega) dX4_product_113 ?_
            rw [px_uu, iw_up]
            refine px_lload hC 6 rfl dX4_product_114 ?_
            refine px_bipush (v := nI 28) hC (by decide) dX4_product_116 ?_
            refine px_lshr hC dX4_product_118 ?_
            refine px_el (y := lN (V / 268435456)) (pf_shr sl28 v1) ?_
            refine px_lstore (lv' := [(0, .ref g), (1, .ref g1), (2, .ref g2), (3, .int (nI i)), (4, .long (lN (V / 268435456))), (6, .int (nI j)), (7, .long (lN (V)))]) hC [1, 2, 3, 4, 0, 5, 6] dX4_product_119 (by decide) rfl ?_
            refine px_iinc (v := nI (j + 1)) (lv' := [(0, .ref g), (1, .ref g1), (2, .ref g2), (3, .int (nI i)), (4, .long (lN (V / 268435456))), (6, .int (nI (j + 1))), (7, .long (lN (V)))]) hC 5 [1, 2, 3, 4, 5, 0, 6] dX4_product_121 rfl (nI_1 j) (by decide) rfl ?_
            refine px_goto hC 37 dX4_product_124 (by decide) ?_
            refine px_lv (lv2 := [(0, .ref g), (1, .ref g1), (2, .ref g2), (3, .int (nI i)), (4, .long (lN (V / 268435456))), (6, .int (nI (j + 1)))]) [0, 1, 2, 3, 4, 5] rfl ?_
            refine iht (j + 1) (V / 268435456) (un u (i + j) (V % 268435456)) (by omega) v2 (fun k hk => ?_) ?_
            · by_cases q : k = i + j
              · subst q; rw [un_s]; exact Nat.mod_lt _ (by decide)
              · rw [un_n _ _ q]; exact hu k hk
            · have hu2 := vl_u (B := 268435456) (x := u) (n := 40) (j := i + j) (z := V % 268435456) (by omega)
              show _ + V / 268435456 * 268435456 ^ (i + (j + 1)) = vl 268435456 x i * vl 268435456 y n2 + x i * (268435456 ^ i * (vl 268435456 (pad y n2) j + pad y n2 j * 268435456 ^ j))
              have hP : 268435456 ^ (i + j) = 268435456 ^ i * 268435456 ^ j := Nat.pow_add _ _ _
              rw [show i + (j + 1) = (i + j) + 1 by omega, Nat.pow_succ, pr_step hv hu2 (by rw [hV]; exact (Nat.div_add_mod V 268435456).symm), hP]
              grind
          have go : px p l e (px_rm 1 21) s m [.ref g, .ref g1, .ref g2].toArray below meth c 9 E A s.heap L (va_up f pa (aI E 40 (iw u))) 0 0 Q 53 [(0, .ref g), (1, .ref g1), (2, .ref g2), (3, .int (nI i)), (4, .long (lN ca)), (6, .int (nI j))] [] := by
            refine px_aload_n hC 0 rfl dX4_product_53 ?_
            refine px_get (C := RX4) (T := TX4) (N := 4) hC (hSu u) rfl kkX4_product_X4 0 (by decide) flX4_product_9 rfl dX4_product_54 ?_
            refine px_iload_n hC 3 rfl dX4_product_57 ?_
            refine px_iload hC 5 rfl dX4_product_58 ?_
            refine px_iadd hC dX4_product_60 ?_
            refine px_ei (y := nI (i + j)) (nI_add _ _) ?_
            refine px_iald hC hS.2.self (by omega) (by first | decide | assumption | omega) dX4_product_61 ?_
            refine px_i2l hC dX4_product_62 ?_
            refine px_el (y := lN (u (i + j))) (nI_l (by omega)) ?_
            refine px_lload hC 4 rfl dX4_product_63 ?_
            refine px_ladd hC dX4_product_65 ?_
            refine px_el (y := lN (u (i + j) + ca)) (lN_add _ _) ?_
            refine px_iload hC 5 rfl dX4_product_66 ?_
            refine px_aload_n hC 2 rfl dX4_product_68 ?_
            refine px_get (C := RX4) (T := TX4) (N := 4) hC (hBu u) rfl kkX4_product_X4 1 (by decide) flX4_product_15 rfl dX4_product_69 ?_
            by_cases hj2 : j < n2
            · refine px_icmp_ge hC 94 dX4_product_72 (by decide) (fun q9 => absurd q9 (nI_ge hj2 (by omega))) (fun _ => ?_)
              refine px_aload_n hC 1 rfl dX4_product_75 ?_
              refine px_get (C := RX4) (T := TX4) (N := 4) hC (hAu u) rfl kkX4_product_X4 0 (by decide) flX4_product_9 rfl dX4_product_76 ?_
              refine px_iload_n hC 3 rfl dX4_product_79 ?_
              refine px_iald hC (hAp u) (by omega) (by first | decide | assumption | omega) dX4_product_80 ?_
              refine px_i2l hC dX4_product_81 ?_
              refine px_el (y := lN (x i)) (nI_l (by omega)) ?_
              refine px_aload_n hC 2 rfl dX4_product_82 ?_
              refine px_get (C := RX4) (T := TX4) (N := 4) hC (hBu u) rfl kkX4_product_X4 0 (by decide) flX4_product_9 rfl dX4_product_83 ?_
              refine px_iload hC 5 rfl dX4_product_86 ?_
              refine px_iald hC (hBp u) (by omega) (by first | decide | assumption | omega) dX4_product_88 ?_
              refine px_i2l hC dX4_product_89 ?_
              refine px_el (y := lN (y j)) (nI_l (by have := b2 j hj2; omega)) ?_
              refine px_lmul hC dX4_product_90 ?_
              refine px_el (y := lN (x i * pad y n2 j)) (by rw [lN_mul, pad_in hj2]) ?_
              refine px_goto hC 95 dX4_product_91 (by decide) ?_
              exact step
            · refine px_icmp_ge hC 94 dX4_product_72 (by decide) (fun _ => ?_) (fun q9 => (q9 (nI_le (by omega) (by omega))).elim)
              refine px_lconst (v := lN 0) hC (by decide) dX4_product_94 ?_
              refine px_el (y := lN (x i * pad y n2 j)) (by rw [pad_out hj2, Nat.mul_zero]) ?_
              exact step
          refine px_iload hC 5 rfl dX4_product_37 ?_
          refine px_aload_n hC 2 rfl dX4_product_39 ?_
          refine px_get (C := RX4) (T := TX4) (N := 4) hC (hBu u) rfl kkX4_product_X4 1 (by decide) flX4_product_15 rfl dX4_product_40 ?_
          by_cases hj2 : j < n2
          · refine px_icmp_lt hC 53 dX4_product_43 (by decide) (fun _ => ?_) (fun q9 => (q9 (nI_lt hj2 (by omega))).elim)
            exact go
          · have hca1 : ca ≠ 0 := fun h => hex ⟨by omega, h⟩
            have hgt : ¬ lg_cmp (lN ca) (lN 0) ≤ 0 := by
              intro q
              have q1 : lN ca > lN 0 := (pk_lLT (by decide) (by omega)).mpr (by omega)
              unfold lg_cmp at q
              rw [if_pos q1] at q
              exact absurd q (by decide)
            refine px_icmp_lt hC 53 dX4_product_43 (by decide) (fun q9 => absurd q9 (nI_nlt (by omega) (by omega))) (fun _ => ?_)
            refine px_lload hC 4 rfl dX4_product_46 ?_
            refine px_lconst (v := lN 0) hC (by decide) dX4_product_48 ?_
            refine px_lcmp hC dX4_product_49 ?_
            refine px_if_le hC 127 dX4_product_50 (by decide) (fun q9 => absurd q9 (hgt)) (fun _ => ?_)
            exact go
      refine px_iload_n hC 3 rfl dX4_product_23 ?_
      refine px_aload_n hC 1 rfl dX4_product_24 ?_
      refine px_get (C := RX4) (T := TX4) (N := 4) hC (hAu u) rfl kkX4_product_X4 1 (by decide) flX4_product_15 rfl dX4_product_25 ?_
      refine px_icmp_ge hC 133 dX4_product_28 (by decide) (fun q9 => absurd q9 (nI_ge (by omega) (by omega))) (fun _ => ?_)
      refine px_lconst (v := lN 0) hC (by decide) dX4_product_31 ?_
      refine px_lstore (lv' := [(0, .ref g), (1, .ref g1), (2, .ref g2), (3, .int (nI i)), (4, .long (lN 0))]) hC [1, 2, 3, 4, 0] dX4_product_32 (by decide) rfl ?_
      refine px_iconst (v := nI 0) hC (by decide) dX4_product_34 ?_
      refine px_istore (lv' := [(0, .ref g), (1, .ref g1), (2, .ref g2), (3, .int (nI i)), (4, .long (lN 0)), (6, .int (nI 0))]) hC [1, 2, 3, 4, 5, 0] dX4_product_35 (by decide) rfl ?_
      exact inner (n2 + 1) 0 0 u (by omega) (by decide) hu (by rw [hv]; simp [vl])
  have zero : ∀ (d k : Nat) (u : Nat → Nat), k + d = 40 → (∀ i, i < k → u i = 0) → px p l e (px_rm 1 21) s m [.ref g, .ref g1, .ref g2].toArray below meth c 9 E A s.heap L (va_up f pa (aI E 40 (iw u))) 0 0 Q 2 [(0, .ref g), (1, .ref g1), (2, .ref g2), (3, .int (nI k))] [] := by
    intro d
    induction d with
    | zero =>
      intro k u hk hu
      have ek : k = 40 := by omega
      subst ek
      refine px_iload_n hC 3 rfl dX4_product_2 ?_
      refine px_bipush (v := nI 40) hC (by decide) dX4_product_3 ?_
      refine px_icmp_ge hC 21 dX4_product_5 (by decide) (fun _ => ?_) (fun q9 => (q9 (by decide)).elim)
      refine px_iconst (v := nI 0) hC (by decide) dX4_product_21 ?_
      refine px_istore_n (lv' := [(0, .ref g), (1, .ref g1), (2, .ref g2), (3, .int (nI 0))]) hC [1, 2, 3, 0] dX4_product_22 (by decide) rfl ?_
      exact outer n1 0 u (by omega) (fun i hi => by rw [hu i hi]; decide) (by rw [vl_c (y := fun _ => 0) hu, vl_0]; simp [vl])
    | succ d ih =>
      intro k u hk hu
      refine px_iload_n hC 3 rfl dX4_product_2 ?_
      refine px_bipush (v := nI 40) hC (by decide) dX4_product_3 ?_
      refine px_icmp_ge hC 21 dX4_product_5 (by decide) (fun q9 => absurd q9 (nI_ge (by omega) (by omega))) (fun _ => ?_)
      refine px_aload_n hC 0 rfl dX4_product_8 ?_
      refine px_get (C := RX4) (T := TX4) (N := 4) hC (hSu u) rfl kkX4_product_X4 0 (by decide) flX4_product_9 rfl dX4_product_9 ?_
      refine px_iload_n hC 3 rfl dX4_product_12 ?_
      refine px_iconst (v := nI 0) hC (by decide) dX4_product_13 ?_
      refine px_iast hC hS.2.self (by omega) (by first | decide | assumption | omega) dX4_product_14 ?_
      rw [px_uu, iw_up]
      refine px_iinc (v := nI (k + 1)) (lv' := [(0, .ref g), (1, .ref g1), (2, .ref g2), (3, .int (nI (k + 1)))]) hC 3 [1, 2, 3, 0] dX4_product_15 rfl (nI_1 k) (by decide) rfl ?_
      refine px_goto hC 2 dX4_product_18 (by decide) ?_
      refine ih (k + 1) _ (by omega) (fun i hi => ?_)
      by_cases q : i = k
      · subst q; rw [un_s]
      · rw [un_n _ _ q]; exact hu i (by omega)
  refine px_iconst (v := nI 0) hC (by decide) dX4_product_0 ?_
  refine px_istore_n (lv' := [(0, .ref g), (1, .ref g1), (2, .ref g2), (3, .int (nI 0))]) hC [1, 2, 3, 0] dX4_product_1 (by decide) rfl ?_
  have h0 := zero 40 0 x0 (by omega) (fun i hi => absurd hi (by omega))
  rw [px_us hS.2.2] at h0
  exact h0
