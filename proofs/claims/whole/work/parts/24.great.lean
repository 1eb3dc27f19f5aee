/-! ===== set(long) ===== -/
def lS (b m : Nat) : Int64 := if b = 1 then -(lN m) else lN m
theorem lS_toInt {b m : Nat} (hb : b < 2) (hm : m < 2 ^ 62) : (lS b m).toInt = if b = 1 then -(m : Int) else m := by
  unfold lS
  rcases two_of hb with q | q
  · subst q; rw [if_neg (by decide), if_neg (by decide)]; exact pk_lT (by omega)
  · subst q; rw [if_pos rfl, if_pos rfl]; exact lN_neg (by omega)
theorem lS_ge {b m : Nat} (hb : b < 2) (hm : m < 2 ^ 62) : 0 ≤ lg_cmp (lS b m) (lN 0) ↔ (b = 0 ∨ m = 0) := by
  rw [lg_cmp_ge, Int64.le_iff_toInt_le, lS_toInt hb hm, show (lN 0).toInt = 0 from by decide]
  rcases two_of hb with q | q
  · subst q; rw [if_neg (by decide)]; omega
  · subst q; rw [if_pos rfl]; omega
theorem lS_0 {b m : Nat} (hb : b < 2) (hm : m < 2 ^ 62) : lg_cmp (lS b m) (lN 0) = 0 ↔ m = 0 := by
  have h1 := lS_toInt hb hm
  have h2 : lS b m = lN 0 ↔ m = 0 := by
    rw [← Int64.toInt_inj, h1, show (lN 0).toInt = 0 from by decide]
    rcases two_of hb with q | q
    · subst q; rw [if_neg (by decide)]; omega
    · subst q; rw [if_pos rfl]; omega
  rw [← h2]
  unfold lg_cmp
  by_cases q1 : lS b m > lN 0
  · rw [if_pos q1]
    constructor
    · intro h; exact absurd h (by decide)
    · intro h; rw [h] at q1; exact absurd q1 (by decide)
  · rw [if_neg q1]
    by_cases q2 : lS b m = lN 0
    · rw [if_pos q2]; exact ⟨fun _ => q2, fun _ => rfl⟩
    · rw [if_neg q2]
      constructor
      · intro h; exact absurd h (by decide)
      · intro h; exact absurd h q2
theorem lS_div {b m : Nat} (hb : b < 2) (hm : m < 2 ^ 62) : lS b m / lN 268435456 = lS b (m / 268435456) := by
  have hq : m / 268435456 < 2 ^ 62 := Nat.lt_of_le_of_lt (Nat.div_le_self _ _) hm
  apply Int64.toInt_inj.mp
  have e : (lN 268435456).toInt = 268435456 := by decide
  rw [Int64.toInt_div_of_ne_right _ _ (by decide), lS_toInt hb hm, lS_toInt hb hq, e]
  rcases two_of hb with q | q
  · subst q; rw [if_neg (by decide), if_neg (by decide)]; rfl
  · subst q; rw [if_pos rfl, if_pos rfl, Int.neg_tdiv]; rfl
theorem lS_rem {b m : Nat} (hb : b < 2) (hm : m < 2 ^ 62) : lS b m - lS b m / lN 268435456 * lN 268435456 = lS b (m % 268435456) := by
  rw [lS_div hb hm]
  have h1 : lN m - lN (m / 268435456) * lN 268435456 = lN (m % 268435456) := by
    have := pk_lRem (a := m) (b := 268435456) (by omega) (by decide) (by decide)
    rw [pk_lDiv (by omega) (by decide) (by decide)] at this
    exact this
  unfold lS
  rcases two_of hb with q | q
  · subst q; rw [if_neg (by decide), if_neg (by decide), if_neg (by decide)]; exact h1
  · subst q; rw [if_pos rfl, if_pos rfl, if_pos rfl, ← h1]; grind
def vS (b m : Nat) : Int := if b = 1 then -(m : Int) else m
theorem flX4_set_15 : Cond.fieldLink RX4 15 "RowReductionModel$Great" "n" "I" ∈ wsX4_set := by decide +kernel
theorem kkX4_set_X4 : ∀ w ∈ wsX40, w ∈ wsX4_set := fun _ h => List.mem_cons_of_mem _ (List.mem_append_right _ h)
theorem flX4_set_9 : Cond.fieldLink RX4 9 "RowReductionModel$Great" "parts" "[I" ∈ wsX4_set := by decide +kernel
theorem flX4_set_19 : Cond.fieldLink RX4 19 "RowReductionModel$Great" "minus" "Z" ∈ wsX4_set := by decide +kernel
theorem c_gSet (l : Launch) (E : px_E) (L : List Nat) (f : Nat → va_E) (g pa n0 mi0 b m0 : Nat) (x0 : Nat → Nat) (vv : Int64) (hS : gS E L f g pa n0 mi0 x0 vv) (hb : b < 2) (hm : m0 < 2 ^ 62) (hbm : b = 1 → m0 ≠ 0) : px_M l yX4_set wsX4_set (px_rm 0 0) E L f [.ref g, .long (lS b m0)] (px_v L (fun f' => ∃ n x, gC n b x (vS b m0) ∧ f' = va_up (va_up f g (.inr (3, gF pa (nI n) (nI b) vv))) pa (aI E 40 (iw x)))) := by
  refine px_M.of (cc := cX4_set) (maxL := 7) (ret := none) (lv := [(0, .ref g), (1, .long (lS b m0))]) (by decide) rfl (Nat.le_of_ble_eq_true rfl) rfl ?_
  intro p e s m below meth c A hC hnm
  obtain ⟨Q, hQ⟩ : ∃ Q, Q = MQ below (px_Q E (px_v L (fun f' => ∃ n x, gC n b x (vS b m0) ∧ f' = va_up (va_up f g (.inr (3, gF pa (nI n) (nI b) vv))) pa (aI E 40 (iw x)))) A) [.ref g, .long (lS b m0)].toArray s (px_rm 0 0).cells (px_rm 0 0).slots A := ⟨_, rfl⟩
  rw [← hQ]
  have n1 := hS.ne
  have loop : ∀ (d k q : Nat) (x : Nat → Nat), q < 268435456 ^ d → vl 268435456 x k + 268435456 ^ k * q = m0 → (∀ i, i < k → x i < 268435456) → (q = 0 → k ≠ 0 → x (k - 1) ≠ 0) → q < 2 ^ 62 → k ≤ 3 → px p l e (px_rm 0 0) s m [.ref g, .long (lS b m0)].toArray below meth c 7 E A s.heap L (va_up (va_up f g (.inr (3, gF pa (nI k) (nI b) vv))) pa (aI E 40 (iw x))) 0 0 Q 22 [(0, .ref g), (1, .long (lS b m0)), (3, .long (lS b q))] [] := by
    intro d
    have fin : ∀ (k : Nat) (x : Nat → Nat), vl 268435456 x k + 268435456 ^ k * 0 = m0 → (∀ i, i < k → x i < 268435456) → (k ≠ 0 → x (k - 1) ≠ 0) → k ≤ 3 → px p l e (px_rm 0 0) s m [.ref g, .long (lS b m0)].toArray below meth c 7 E A s.heap L (va_up (va_up f g (.inr (3, gF pa (nI k) (nI b) vv))) pa (aI E 40 (iw x))) 0 0 Q 22 [(0, .ref g), (1, .long (lS b m0)), (3, .long (lS b 0))] [] := by
      intro k x hv hx ht hk
      refine px_lload_n hC 2 rfl dX4_set_22 ?_
      refine px_lconst (v := lN 0) hC (by decide) dX4_set_23 ?_
      refine px_lcmp hC dX4_set_24 ?_
      refine px_if_eq hC 79 dX4_set_25 (by decide) (fun _ => ?_) (fun q9 => (q9 ((lS_0 hb (by decide)).mpr rfl)).elim)
      subst hQ
      exact px_vret hC rfl (⟨rfl, rfl, k, x, ⟨by omega, hx, ht, hb, by unfold vS; rcases two_of hb with q9 | q9; (rw [if_neg (by omega)]; omega); (rw [if_pos q9]; omega), by unfold vS; rcases two_of hb with q9 | q9; (rw [if_neg (by omega)]; omega); (rw [if_pos q9]; have := hbm q9; omega)⟩, rfl⟩) dX4_set_79
    induction d with
    | zero =>
      intro k q x h0 hv hx ht hq hk
      have e0 : q = 0 := by rw [Nat.pow_zero] at h0; omega
      subst e0
      exact fin k x hv hx (ht rfl) hk
    | succ d ih =>
      intro k q x h0 hv hx ht hq hk
      by_cases hq0 : q = 0
      · subst hq0
        exact fin k x hv hx (ht rfl) hk
      have hk2 : k ≤ 2 := by
        rcases Nat.lt_or_ge 2 k with r | r
        · have h3 : 268435456 ^ 3 ≤ 268435456 ^ k := Nat.pow_le_pow_right (by decide) r
          have h4 : 268435456 ^ k * 1 ≤ 268435456 ^ k * q := Nat.mul_le_mul_left _ (by omega)
          have h5 : (268435456 : Nat) ^ 3 = 19342813113834066795298816 := by decide
          omega
        · exact r
      have hr : q % 268435456 < 268435456 := Nat.mod_lt _ (by decide)
      have next : px p l e (px_rm 0 0) s m [.ref g, .long (lS b m0)].toArray below meth c 7 E A s.heap L (va_up (va_up f g (.inr (3, gF pa (nI k) (nI b) vv))) pa (aI E 40 (iw (un x k (q % 268435456))))) 0 0 Q 60 [(0, .ref g), (1, .long (lS b m0)), (3, .long (lS b q)), (5, .long (lS b (q % 268435456)))] [] := by
        refine px_lload_n hC 2 rfl dX4_set_60 ?_
        refine px_ldc2 (v := 268435456) hC dX4_set_61 (by decide +kernel) ?_
        refine px_el (y := lN 268435456) (by decide) ?_
        refine px_ldiv hC (by decide) dX4_set_64 ?_
        refine px_el (y := lS b (q / 268435456)) (lS_div hb hq) ?_
        refine px_lstore_n (lv' := [(0, .ref g), (1, .long (lS b m0)), (3, .long (lS b (q / 268435456))), (5, .long (lS b (q % 268435456)))]) hC [1, 2, 0, 3] dX4_set_65 (by decide) rfl ?_
        refine px_aload_n hC 0 rfl dX4_set_66 ?_
        refine px_dup hC rfl dX4_set_67 ?_
        refine px_get (C := RX4) (T := TX4) (N := 4) hC (hS.1.self.up n1) rfl kkX4_set_X4 1 (by decide) flX4_set_15 rfl dX4_set_68 ?_
        refine px_iconst (v := nI 1) hC (by decide) dX4_set_71 ?_
        refine px_iadd hC dX4_set_72 ?_
        refine px_ei (y := nI (k + 1)) (nI_add _ _) ?_
        refine px_put (C := RX4) (T := TX4) (N := 4) (fs' := gF pa (nI (k + 1)) (nI b) vv) hC (hS.1.self.up n1) rfl kkX4_set_X4 1 (by decide) tyX4 tyX4_ok nmX4 flX4_set_15 rfl rfl rfl (Nat.le_of_ble_eq_true rfl) rfl dX4_set_73 ?_
        rw [px_uc _ _ _ (fun h => n1 h.symm), px_uu]
        refine px_goto hC 22 dX4_set_76 (by decide) ?_
        refine px_lv (lv2 := [(0, .ref g), (1, .long (lS b m0)), (3, .long (lS b (q / 268435456)))]) [0, 1, 2] rfl ?_
        refine ih (k + 1) (q / 268435456) _ ?_ ?_ (fun i hi => ?_) (fun h5 _ => ?_) (Nat.lt_of_le_of_lt (Nat.div_le_self _ _) hq) (by omega)
        · rw [Nat.pow_succ] at h0
          exact Nat.div_lt_of_lt_mul (by rw [Nat.mul_comm]; exact h0)
        · show vl 268435456 (un x k (q % 268435456)) k + un x k (q % 268435456) k * 268435456 ^ k + 268435456 ^ (k + 1) * (q / 268435456) = m0
          rw [vl_ug (Nat.le_refl k), un_s, ← hv, Nat.pow_succ, Nat.mul_assoc, show 268435456 ^ k * q = 268435456 ^ k * (268435456 * (q / 268435456) + q % 268435456) from by rw [Nat.div_add_mod], Nat.mul_add]
          have := Nat.mul_comm (q % 268435456) (268435456 ^ k)
          omega
        · by_cases r : i = k
          · subst r; rw [un_s]; exact hr
          · rw [un_n _ _ r]; exact hx i (by omega)
        · rw [show k + 1 - 1 = k by omega, un_s]
          have := Nat.div_add_mod q 268435456
          rw [h5] at this
          omega
      refine px_lload_n hC 2 rfl dX4_set_22 ?_
      refine px_lconst (v := lN 0) hC (by decide) dX4_set_23 ?_
      refine px_lcmp hC dX4_set_24 ?_
      refine px_if_eq hC 79 dX4_set_25 (by decide) (fun q9 => absurd q9 (fun h => hq0 ((lS_0 hb hq).mp h))) (fun _ => ?_)
      refine px_lload_n hC 2 rfl dX4_set_28 ?_
      refine px_ldc2 (v := 268435456) hC dX4_set_29 (by decide +kernel) ?_
      refine px_el (y := lN 268435456) (by decide) ?_
      refine px_lrem hC (by decide) dX4_set_32 ?_
      refine px_el (y := lS b (q % 268435456)) (lS_rem hb hq) ?_
      refine px_lstore (lv' := [(0, .ref g), (1, .long (lS b m0)), (3, .long (lS b q)), (5, .long (lS b (q % 268435456)))]) hC [1, 2, 3, 0] dX4_set_33 (by decide) rfl ?_
      refine px_aload_n hC 0 rfl dX4_set_35 ?_
      refine px_get (C := RX4) (T := TX4) (N := 4) hC (hS.1.self.up n1) rfl kkX4_set_X4 0 (by decide) flX4_set_9 rfl dX4_set_36 ?_
      refine px_aload_n hC 0 rfl dX4_set_39 ?_
      refine px_get (C := RX4) (T := TX4) (N := 4) hC (hS.1.self.up n1) rfl kkX4_set_X4 1 (by decide) flX4_set_15 rfl dX4_set_40 ?_
      refine px_lload hC 3 rfl dX4_set_43 ?_
      refine px_lconst (v := lN 0) hC (by decide) dX4_set_45 ?_
      refine px_lcmp hC dX4_set_46 ?_
      by_cases hs : b = 0 ∨ q % 268435456 = 0
      · refine px_if_ge hC 56 dX4_set_47 (by decide) (fun _ => ?_) (fun q9 => (q9 ((lS_ge hb (by omega)).mpr hs)).elim)
        refine px_lload hC 3 rfl dX4_set_56 ?_
        refine px_l2i hC dX4_set_58 ?_
        refine px_ei (y := nI (q % 268435456)) (by rw [show lS b (q % 268435456) = lN (q % 268435456) from by unfold lS; rcases two_of hb with q9 | q9; (rw [if_neg (by omega)]); (rw [if_pos q9, hs.resolve_left (by omega)]; decide)]; exact lN_i _) ?_
        refine px_iast hC ((hS.2.up (fun h => n1 h.symm)).self) (by omega) (by first | decide | assumption | omega) dX4_set_59 ?_
        rw [px_uu, iw_up]
        exact next
      · refine px_if_ge hC 56 dX4_set_47 (by decide) (fun q9 => absurd q9 (fun h => hs ((lS_ge hb (by omega)).mp h))) (fun _ => ?_)
        refine px_lload hC 3 rfl dX4_set_50 ?_
        refine px_lneg hC dX4_set_52 ?_
        refine px_goto hC 58 dX4_set_53 (by decide) ?_
        refine px_l2i hC dX4_set_58 ?_
        refine px_ei (y := nI (q % 268435456)) (by rw [show -(lS b (q % 268435456)) = lN (q % 268435456) from by unfold lS; rw [if_pos (by omega), Int64.neg_neg]]; exact lN_i _) ?_
        refine px_iast hC ((hS.2.up (fun h => n1 h.symm)).self) (by omega) (by first | decide | assumption | omega) dX4_set_59 ?_
        rw [px_uu, iw_up]
        exact next
  have main : px p l e (px_rm 0 0) s m [.ref g, .long (lS b m0)].toArray below meth c 7 E A s.heap L (va_up f g (.inr (3, gF pa (nI n0) (nI b) vv))) 0 0 Q 15 [(0, .ref g), (1, .long (lS b m0))] [] := by
    refine px_aload_n hC 0 rfl dX4_set_15 ?_
    refine px_iconst (v := nI 0) hC (by decide) dX4_set_16 ?_
    refine px_put (C := RX4) (T := TX4) (N := 4) (fs' := gF pa (nI 0) (nI b) vv) hC hS.1.self rfl kkX4_set_X4 1 (by decide) tyX4 tyX4_ok nmX4 flX4_set_15 rfl rfl rfl (Nat.le_of_ble_eq_true rfl) rfl dX4_set_17 ?_
    rw [px_uu]
    refine px_lload_n hC 1 rfl dX4_set_20 ?_
    refine px_lstore_n (lv' := [(0, .ref g), (1, .long (lS b m0)), (3, .long (lS b m0))]) hC [1, 2, 0] dX4_set_21 (by decide) rfl ?_
    have h0 := loop 4 0 m0 x0 (by have : (2 : Nat) ^ 62 < 268435456 ^ 4 := by decide
                                  omega) (by simp [vl]) (fun i hi => absurd hi (by omega)) (fun _ h => absurd rfl h) hm (by omega)
    rw [px_us (hS.2.up (fun h => n1 h.symm)).2] at h0
    exact h0
  refine px_aload_n hC 0 rfl dX4_set_0 ?_
  refine px_lload_n hC 1 rfl dX4_set_1 ?_
  refine px_lconst (v := lN 0) hC (by decide) dX4_set_2 ?_
  refine px_lcmp hC dX4_set_3 ?_
  by_cases hs : b = 0
  · subst hs
    refine px_if_ge hC 11 dX4_set_4 (by decide) (fun _ => ?_) (fun q9 => (q9 ((lS_ge (by decide) hm).mpr (Or.inl rfl))).elim)
    refine px_iconst (v := nI 0) hC (by decide) dX4_set_11 ?_
    refine px_put (C := RX4) (T := TX4) (N := 4) (fs' := gF pa (nI n0) (nI 0) vv) hC hS.1 rfl kkX4_set_X4 2 (by decide) tyX4 tyX4_ok nmX4 flX4_set_19 rfl (by decide) (by decide) (Nat.le_of_ble_eq_true rfl) rfl dX4_set_12 ?_
    exact main
  · have e1 : b = 1 := by omega
    subst e1
    refine px_if_ge hC 11 dX4_set_4 (by decide) (fun q9 => absurd q9 (fun h => by have := (lS_ge (by decide) hm).mp h; have := hbm rfl; omega)) (fun _ => ?_)
    refine px_iconst (v := nI 1) hC (by decide) dX4_set_7 ?_
    refine px_goto hC 12 dX4_set_8 (by decide) ?_
    refine px_put (C := RX4) (T := TX4) (N := 4) (fs' := gF pa (nI n0) (nI 1) vv) hC hS.1 rfl kkX4_set_X4 2 (by decide) tyX4 tyX4_ok nmX4 flX4_set_19 rfl (by decide) (by decide) (Nat.le_of_ble_eq_true rfl) rfl dX4_set_12 ?_
    exact main
