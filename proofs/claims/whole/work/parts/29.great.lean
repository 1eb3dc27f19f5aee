theorem px_u3 (f : Nat → va_E) {a b c : Nat} (x y z x' : va_E) (h1 : a ≠ b) (h2 : a ≠ c) : va_up (va_up (va_up (va_up f a x) b y) c z) a x' = va_up (va_up (va_up f a x') b y) c z := by
  rw [px_uc _ _ _ (fun h => h2 h.symm), px_uc _ _ _ (fun h => h1 h.symm), px_uu]
def qz (v w : Int) : Int := if v < 0 ↔ w < 0 then ((v.natAbs / w.natAbs : Nat) : Int) else -((v.natAbs / w.natAbs : Nat) : Int)
theorem qz_ex {d c : Int} (hd : d ≠ 0) : qz (d * c) d = c := by
  have h1 : (d * c).natAbs / d.natAbs = c.natAbs := by rw [Int.natAbs_mul, Nat.mul_div_cancel_left _ (by omega)]
  unfold qz
  rw [h1]
  rcases (show c < 0 ∨ c = 0 ∨ 0 < c by omega) with q | q | q <;> rcases (show d < 0 ∨ 0 < d by omega) with r | r
  · have := Int.mul_pos_of_neg_of_neg r q
    rw [if_neg (by omega)]; omega
  · have := Int.mul_neg_of_pos_of_neg r q
    rw [if_neg (by omega)]; omega
  · subst q; simp
  · subst q; simp
  · have := Int.mul_neg_of_neg_of_pos r q
    rw [if_pos (by omega)]; omega
  · have := Int.mul_pos r q
    rw [if_pos (by omega)]; omega
theorem q_next {A H b : Nat} (hH : 0 < H) (hb : b < 2) : (2 * A + b) / H = 2 * (A / H) + (if H ≤ 2 * (A % H) + b then 1 else 0) ∧ (2 * A + b) % H = (if H ≤ 2 * (A % H) + b then 2 * (A % H) + b - H else 2 * (A % H) + b) := by
  have h1 := Nat.div_add_mod A H
  have h2 := Nat.mod_lt A hH
  generalize A / H = q at h1 ⊢
  generalize A % H = r at h1 h2 ⊢
  by_cases h : H ≤ 2 * r + b
  · rw [if_pos h, if_pos h]
    have e : 2 * A + b = (2 * r + b - H) + H * (2 * q + 1) := by rw [Nat.mul_add, Nat.mul_one, ← h1]; have : H * (2 * q) = 2 * (H * q) := by rw [Nat.mul_left_comm]
                                                                 omega
    rw [e, Nat.add_mul_div_left _ _ hH, Nat.add_mul_mod_self_left, Nat.div_eq_of_lt (by omega), Nat.mod_eq_of_lt (by omega)]
    omega
  · rw [if_neg h, if_neg h]
    have e : 2 * A + b = (2 * r + b) + H * (2 * q) := by rw [← h1]; have : H * (2 * q) = 2 * (H * q) := by rw [Nat.mul_left_comm]
                                                         omega
    rw [e, Nat.add_mul_div_left _ _ hH, Nat.add_mul_mod_self_left, Nat.div_eq_of_lt (by omega), Nat.mod_eq_of_lt (by omega)]
    omega
theorem q_bit (N t : Nat) : N / 2 ^ t = 2 * (N / 2 ^ (t + 1)) + N / 2 ^ t % 2 := by
  rw [Nat.pow_succ, ← Nat.div_div_eq_div_mul]
  omega
theorem q_or {u : Nat → Nat} {t q : Nat} (hu : ∀ i, i < 40 → u i < 268435456) (ht : t / 28 < 40) (hv : vl 268435456 u 40 = 2 ^ (t + 1) * q) : u (t / 28) ||| 2 ^ (t % 28) = u (t / 28) + 2 ^ (t % 28) ∧ u (t / 28) + 2 ^ (t % 28) < 268435456 := by
  have hx := hu _ ht
  have e : 2 ^ (t + 1) = 268435456 ^ (t / 28) * 2 ^ (t % 28 + 1) := by
    rw [show (268435456 : Nat) = 2 ^ 28 from rfl, ← Nat.pow_mul, ← Nat.pow_add]; congr 1; omega
  have e2 : vl 268435456 u 40 / 268435456 ^ (t / 28) = 2 ^ (t % 28 + 1) * q := by
    rw [hv, e, Nat.mul_assoc, Nat.mul_div_cancel_left _ (Nat.pow_pos (by decide))]
  rw [vl_div hu (by omega), show 40 - t / 28 = (40 - t / 28 - 1) + 1 by omega, vl_s1] at e2
  have e3 : 2 ^ (t % 28 + 1) * 2 ^ (27 - t % 28) = 268435456 := by rw [← Nat.pow_add, show t % 28 + 1 + (27 - t % 28) = 28 by omega]
  have e4 : u (t / 28) % 2 ^ (t % 28 + 1) = 0 := by
    have e5 : u (t / 28 + 0) = u (t / 28) := rfl
    rw [e5] at e2
    have e6 : (u (t / 28) + 268435456 * vl 268435456 (fun i => u (t / 28 + (1 + i))) (40 - t / 28 - 1)) % 2 ^ (t % 28 + 1) = 0 := by rw [e2, Nat.mul_mod_right]
    rw [← e3, Nat.mul_assoc, Nat.add_mul_mod_self_left] at e6
    exact e6
  obtain ⟨m, hm⟩ : ∃ m, u (t / 28) = 2 ^ (t % 28 + 1) * m := ⟨u (t / 28) / 2 ^ (t % 28 + 1), by have := Nat.div_add_mod (u (t / 28)) (2 ^ (t % 28 + 1)); omega⟩
  have hpw : 2 ^ (t % 28) < 2 ^ (t % 28 + 1) := Nat.pow_lt_pow_right (by decide) (by omega)
  refine ⟨?_, ?_⟩
  · have h := Nat.shiftLeft_add_eq_or_of_lt hpw m
    rw [Nat.shiftLeft_eq, Nat.mul_comm, ← hm] at h
    exact h.symm
  · have h1 : m < 2 ^ (27 - t % 28) := by
      rcases Nat.lt_or_ge m (2 ^ (27 - t % 28)) with r | r
      · exact r
      · have := Nat.mul_le_mul_left (2 ^ (t % 28 + 1)) r
        omega
    have h2 := Nat.mul_le_mul_left (2 ^ (t % 28 + 1)) h1
    rw [Nat.succ_eq_add_one, Nat.mul_add, Nat.mul_one] at h2
    omega
theorem q_sg {v w : Int} {n' mi1 mi2 : Nat} {u : Nat → Nat} (a4 : mi1 < 2) (b4 : mi2 < 2) (a6 : mi1 = 1 ↔ v < 0) (b6 : mi2 = 1 ↔ w < 0) (c1 : n' ≤ 40) (c2 : ∀ i, i < n' → u i < 268435456) (c3 : n' ≠ 0 → u (n' - 1) ≠ 0) (c4 : vl 268435456 u n' = v.natAbs / w.natAbs) : gC n' (if n' = 0 then 0 else if mi1 = mi2 then 0 else 1) u (qz v w) := by
  have h0 := n0_of c3
  have h1 : n' = 0 → vl 268435456 u n' = 0 := fun h => by subst h; rfl
  unfold qz
  rw [← c4]
  generalize hU : vl 268435456 u n' = U at h0 h1
  have hs : mi1 = mi2 ↔ (v < 0 ↔ w < 0) := by
    rcases two_of a4 with q1 | q1 <;> rcases two_of b4 with q2 | q2 <;> omega
  refine ⟨c1, c2, c3, ?_, ?_, ?_⟩
  · by_cases q : n' = 0
    · rw [if_pos q]; decide
    · rw [if_neg q]
      by_cases q2 : mi1 = mi2
      · rw [if_pos q2]; decide
      · rw [if_neg q2]; decide
  · rw [hU]
    by_cases q : v < 0 ↔ w < 0
    · rw [if_pos q]; omega
    · rw [if_neg q]; omega
  · by_cases q : n' = 0
    · have e := h1 q
      rw [if_pos q, e]
      by_cases q2 : v < 0 ↔ w < 0
      · rw [if_pos q2]; omega
      · rw [if_neg q2]; omega
    · have hU0 : U ≠ 0 := fun h => q (h0 h)
      rw [if_neg q]
      by_cases q2 : mi1 = mi2
      · rw [if_pos q2, if_pos (hs.mp q2)]; omega
      · rw [if_neg q2, if_neg (fun h => q2 (hs.mpr h))]; omega
theorem flX4_quotient_15 : Cond.fieldLink RX4 15 "RowReductionModel$Great" "n" "I" ∈ wsX4_quotient := by decide +kernel
theorem kkX4_quotient_X4 : ∀ w ∈ wsX40, w ∈ wsX4_quotient := fun _ h => List.mem_cons_of_mem _ (List.mem_append_right _ h)
theorem flX4_quotient_19 : Cond.fieldLink RX4 19 "RowReductionModel$Great" "minus" "Z" ∈ wsX4_quotient := by decide +kernel
theorem flX4_quotient_9 : Cond.fieldLink RX4 9 "RowReductionModel$Great" "parts" "[I" ∈ wsX4_quotient := by decide +kernel
theorem c_gQuot (l : Launch) (E : px_E) (L : List Nat) (f : Nat → va_E) (g pa g1 pa1 g2 pa2 rs pr : Nat) {v w : Int} {n0 mi0 n1 mi1 n2 mi2 n3 mi3 : Nat} {x0 x y x3 : Nat → Nat} {vv vv1 vv2 vr : Int64} (hS : gS E L f g pa n0 mi0 x0 vv) (hA : gS E L f g1 pa1 n1 mi1 x vv1) (hC1 : gC n1 mi1 x v) (hB : gS E L f g2 pa2 n2 mi2 y vv2) (hC2 : gC n2 mi2 y w) (hR : gS E L f rs pr n3 mi3 x3 vr) (hg1 : g ≠ g1) (hg2 : g ≠ g2) (hgr : g ≠ rs) (hr1 : rs ≠ g1) (hr2 : rs ≠ g2) (hp1 : pa ≠ pa1) (hp2 : pa ≠ pa2) (hpr : pa ≠ pr) (hq1 : pr ≠ pa1) (hq2 : pr ≠ pa2) (hn2 : n2 ≤ 39) (hw : w ≠ 0) : px_M l yX4_quotient wsX4_quotient (px_rm 2 47) E L f [.ref g, .ref g1, .ref g2, .ref rs] (px_v L (fun f' => ∃ n' mi' u nr ur, gC n' mi' u (qz v w) ∧ gC nr 0 ur ((v.natAbs % w.natAbs : Nat) : Int) ∧ f' = va_up (va_up (va_up (va_up f g (.inr (3, gF pa (nI n') (nI mi') vv))) pa (aI E 40 (iw u))) rs (.inr (3, gF pr (nI nr) (nI 0) vr))) pr (aI E 40 (iw ur)))) := by
  refine px_M.of (cc := cX4_quotient) (maxL := 5) (ret := none) (lv := [(0, .ref g), (1, .ref g1), (2, .ref g2), (3, .ref rs)]) (by decide) rfl (Nat.le_of_ble_eq_true rfl) rfl ?_
  intro p e s m below meth c A hC hnm
  obtain ⟨Q, hQ⟩ : ∃ Q, Q = MQ below (px_Q E (px_v L (fun f' => ∃ n' mi' u nr ur, gC n' mi' u (qz v w) ∧ gC nr 0 ur ((v.natAbs % w.natAbs : Nat) : Int) ∧ f' = va_up (va_up (va_up (va_up f g (.inr (3, gF pa (nI n') (nI mi') vv))) pa (aI E 40 (iw u))) rs (.inr (3, gF pr (nI nr) (nI 0) vr))) pr (aI E 40 (iw ur)))) A) [.ref g, .ref g1, .ref g2, .ref rs].toArray s (px_rm 2 47).cells (px_rm 2 47).slots A := ⟨_, rfl⟩
  rw [← hQ]
  have e1 := hS.ne
  have e2 : g1 ≠ pa := hA.1.nk hS.2 rfl
  have e3 : g2 ≠ pa := hB.1.nk hS.2 rfl
  have e4 : g ≠ pr := hS.1.nk hR.2 rfl
  have e5 : g1 ≠ pr := hA.1.nk hR.2 rfl
  have e6 : g2 ≠ pr := hB.1.nk hR.2 rfl
  have e7 : rs ≠ pa := hR.1.nk hS.2 rfl
  have e8 := hR.ne
  have e9 : rs ≠ pa1 := hR.1.nk hA.2 rfl
  have e10 : rs ≠ pa2 := hR.1.nk hB.2 rfl
  obtain ⟨a1, a2, a3, a4, a5, a6⟩ := id hC1
  obtain ⟨b1, b2, b3, b4, b5, b6⟩ := id hC2
  have lx := vl_lt a2
  have hH : 0 < vl 268435456 y n2 := by rw [← b5]; omega
  rw [a5, b5] at hQ
  -- what is read through the three cells that change
  have kS : ∀ u nr ur, px_at L (va_up (va_up (va_up f pa (aI E 40 (iw u))) rs (.inr (3, gF pr (nI nr) (nI 0) vr))) pr (aI E 40 (iw ur))) g (.inr (3, gF pa (nI n0) (nI mi0) vv)) := fun u nr ur => ((hS.1.up e1).up hgr).up e4
  have kP : ∀ u nr ur, px_at L (va_up (va_up (va_up f pa (aI E 40 (iw u))) rs (.inr (3, gF pr (nI nr) (nI 0) vr))) pr (aI E 40 (iw ur))) pa (aI E 40 (iw u)) := fun u nr ur => ((hS.2.self).up (fun h => e7 h.symm)).up hpr
  have kA : ∀ u nr ur, gS E L (va_up (va_up (va_up f pa (aI E 40 (iw u))) rs (.inr (3, gF pr (nI nr) (nI 0) vr))) pr (aI E 40 (iw ur))) g1 pa1 n1 mi1 x vv1 := fun u nr ur => ⟨((hA.1.up e2).up (fun h => hr1 h.symm)).up e5, ((hA.2.up (fun h => hp1 h.symm)).up (fun h => e9 h.symm)).up (fun h => hq1 h.symm)⟩
  have kB : ∀ u nr ur, gS E L (va_up (va_up (va_up f pa (aI E 40 (iw u))) rs (.inr (3, gF pr (nI nr) (nI 0) vr))) pr (aI E 40 (iw ur))) g2 pa2 n2 mi2 y vv2 := fun u nr ur => ⟨((hB.1.up e3).up (fun h => hr2 h.symm)).up e6, ((hB.2.up (fun h => hp2 h.symm)).up (fun h => e10 h.symm)).up (fun h => hq2 h.symm)⟩
  have kR : ∀ u nr ur, gS E L (va_up (va_up (va_up f pa (aI E 40 (iw u))) rs (.inr (3, gF pr (nI nr) (nI 0) vr))) pr (aI E 40 (iw ur))) rs pr nr 0 ur vr := fun u nr ur => ⟨((hR.1.up e7).self).up e8, ((hR.2.up (fun h => hpr h.symm)).up (fun h => e8 h.symm)).self⟩
  have fin : ∀ (u : Nat → Nat) (nr : Nat) (ur : Nat → Nat), (∀ i, i < 40 → u i < 268435456) → vl 268435456 u 40 = vl 268435456 x n1 / vl 268435456 y n2 → gC nr 0 ur ((vl 268435456 x n1 % vl 268435456 y n2 : Nat) : Int) → px p l e (px_rm 2 47) s m [.ref g, .ref g1, .ref g2, .ref rs].toArray below meth c 5 E A s.heap L (va_up (va_up (va_up f pa (aI E 40 (iw u))) rs (.inr (3, gF pr (nI nr) (nI 0) vr))) pr (aI E 40 (iw ur))) 0 0 Q 100 [(0, .ref g), (1, .ref g1), (2, .ref g2), (3, .ref rs), (4, .int (nI 0 - nI 1))] [] := by
    intro u nr ur hu hv hr
    have hcut := vl_cut (u := u) (k := n1) (w := 40) a1 (by rw [hv]; exact Nat.lt_of_le_of_lt (Nat.div_le_self _ _) lx)
    have tail : ∀ mi' : Nat, mi' = (if mi1 = mi2 then 0 else 1) → px p l e (px_rm 2 47) s m [.ref g, .ref g1, .ref g2, .ref rs].toArray below meth c 5 E A s.heap L (va_up (va_up (va_up (va_up f pa (aI E 40 (iw u))) rs (.inr (3, gF pr (nI nr) (nI 0) vr))) pr (aI E 40 (iw ur))) g (.inr (3, gF pa (nI n0) (nI mi') vv))) 0 0 Q 120 [(0, .ref g), (1, .ref g1), (2, .ref g2), (3, .ref rs), (4, .int (nI 0 - nI 1))] [] := by
      intro mi' hmi'
      refine px_aload_n hC 0 rfl dX4_quotient_120 ?_
      refine px_aload_n hC 1 rfl dX4_quotient_121 ?_
      refine px_get (C := RX4) (T := TX4) (N := 4) hC ((kA u nr ur).1.up (fun h => hg1 h.symm)) rfl kkX4_quotient_X4 1 (by decide) flX4_quotient_15 rfl dX4_quotient_122 ?_
      refine px_callVv (C := RX4) (T := TX4) (N := 4) (st := []) (nn := 1) hC (c_trim l E L _ g pa n1 mi' (nI n0) u vv ((kS u nr ur).self) ((kP u nr ur).up (fun h => e1 h.symm)) a1 (fun i hi => hu i (by omega))) ((kS u nr ur).self) rfl gX4_quotient_X4_trim rfl (by decide +kernel) (by decide) (Nat.le_of_ble_eq_true rfl) (by decide) rfl rfl dX4_quotient_125 (fun f2 h2 => ?_)
      obtain ⟨n', c1, c2, c3, rfl⟩ := h2
      subst hmi'
      rw [px_uu, px_uc _ _ _ (fun h => e4 h.symm), px_uc _ _ _ (fun h => hgr h.symm), px_uc _ _ _ (fun h => e1 h.symm)]
      subst hQ
      exact px_vret hC rfl ⟨rfl, rfl, n', _, u, nr, ur, q_sg a4 b4 a6 b6 (by omega) (fun i hi => hu i (by omega)) c3 (by rw [c2, hcut, hv, a5, b5]), hr, rfl⟩ dX4_quotient_128
    refine px_aload_n hC 0 rfl dX4_quotient_100 ?_
    refine px_aload_n hC 1 rfl dX4_quotient_101 ?_
    refine px_get (C := RX4) (T := TX4) (N := 4) hC (kA u nr ur).1 rfl kkX4_quotient_X4 2 (by decide) flX4_quotient_19 rfl dX4_quotient_102 ?_
    refine px_aload_n hC 2 rfl dX4_quotient_105 ?_
    refine px_get (C := RX4) (T := TX4) (N := 4) hC (kB u nr ur).1 rfl kkX4_quotient_X4 2 (by decide) flX4_quotient_19 rfl dX4_quotient_106 ?_
    by_cases hm : mi1 = mi2
    · refine px_icmp_eq hC 116 dX4_quotient_109 (by decide) (fun _ => ?_) (fun q9 => (q9 (by rw [hm])).elim)
      refine px_iconst (v := nI 0) hC (by decide) dX4_quotient_116 ?_
      refine px_put (C := RX4) (T := TX4) (N := 4) (fs' := gF pa (nI n0) (nI 0) vv) hC (kS u nr ur) rfl kkX4_quotient_X4 2 (by decide) tyX4 tyX4_ok nmX4 flX4_quotient_19 rfl (by decide) (by decide) (Nat.le_of_ble_eq_true rfl) rfl dX4_quotient_117 ?_
      exact tail 0 (by rw [if_pos hm])
    · refine px_icmp_eq hC 116 dX4_quotient_109 (by decide) (fun q9 => absurd q9 (fun h => hm (nI_inj2 (by omega) (by omega) h))) (fun _ => ?_)
      refine px_iconst (v := nI 1) hC (by decide) dX4_quotient_112 ?_
      refine px_goto hC 117 dX4_quotient_113 (by decide) ?_
      refine px_put (C := RX4) (T := TX4) (N := 4) (fs' := gF pa (nI n0) (nI 1) vv) hC (kS u nr ur) rfl kkX4_quotient_X4 2 (by decide) tyX4 tyX4_ok nmX4 flX4_quotient_19 rfl (by decide) (by decide) (Nat.le_of_ble_eq_true rfl) rfl dX4_quotient_117 ?_
      exact tail 1 (by rw [if_neg hm])
  have loop : ∀ (t : Nat) (u : Nat → Nat) (nr : Nat) (ur : Nat → Nat), t ≤ 28 * n1 → (∀ i, i < 40 → u i < 268435456) → vl 268435456 u 40 = 2 ^ t * (vl 268435456 x n1 / 2 ^ t / vl 268435456 y n2) → gC nr 0 ur ((vl 268435456 x n1 / 2 ^ t % vl 268435456 y n2 : Nat) : Int) → px p l e (px_rm 2 47) s m [.ref g, .ref g1, .ref g2, .ref rs].toArray below meth c 5 E A s.heap L (va_up (va_up (va_up f pa (aI E 40 (iw u))) rs (.inr (3, gF pr (nI nr) (nI 0) vr))) pr (aI E 40 (iw ur))) 0 0 Q 45 [(0, .ref g), (1, .ref g1), (2, .ref g2), (3, .ref rs), (4, .int (nI t - nI 1))] [] := by
    intro t
    induction t with
    | zero =>
      intro u nr ur ht hu hv hr
      refine px_iload hC 4 rfl dX4_quotient_45 ?_
      refine px_if_lt hC 100 dX4_quotient_47 (by decide) (fun _ => ?_) (fun q9 => (q9 (by decide)).elim)
      exact fin u nr ur hu (by rw [hv, Nat.pow_zero, Nat.one_mul, Nat.div_one]) (by rw [Nat.pow_zero, Nat.div_one] at hr; exact hr)
    | succ t ih =>
      intro u nr ur ht hu hv hr
      rw [show nI (t + 1) - nI 1 = nI t from nI_pred t]
      obtain ⟨r1, r2, r3, -, r5, -⟩ := id hr
      have r5' : vl 268435456 x n1 / 2 ^ (t + 1) % vl 268435456 y n2 = vl 268435456 ur nr := r5
      have hrH : vl 268435456 ur nr < vl 268435456 y n2 := by rw [← r5']; exact Nat.mod_lt _ hH
      have hnr : nr ≤ n2 := gC_len r3 (Nat.lt_trans hrH (vl_lt b2))
      have hbl : vl 268435456 x n1 / 2 ^ t % 2 < 2 := Nat.mod_lt _ (by decide)
      have hqb := q_bit (vl 268435456 x n1) t
      have hqn := q_next (A := vl 268435456 x n1 / 2 ^ (t + 1)) (b := vl 268435456 x n1 / 2 ^ t % 2) hH hbl
      rw [← hqb, r5'] at hqn
      refine px_iload hC 4 rfl dX4_quotient_45 ?_
      refine px_if_lt hC 100 dX4_quotient_47 (by decide) (fun q9 => absurd q9 (nI_pos (by omega))) (fun _ => ?_)
      refine px_aload_n hC 3 rfl dX4_quotient_50 ?_
      refine px_aload_n hC 1 rfl dX4_quotient_51 ?_
      refine px_iload hC 4 rfl dX4_quotient_52 ?_
      refine px_callVi (C := RX4) (T := TX4) (N := 4) (st := [.ref rs]) (nn := 1) hC (c_gBit l E L _ g1 pa1 n1 mi1 t x vv1 (kA u nr ur) a1 a2 (by omega)) (kA u nr ur).1 rfl gX4_quotient_X4_isSet rfl (by decide +kernel) (by decide) (Nat.le_of_ble_eq_true rfl) (by decide) rfl rfl dX4_quotient_54 (fun z f1 hz => ?_)
      obtain ⟨rfl, rfl⟩ := hz
      generalize hB0 : vl 268435456 x n1 / 2 ^ t % 2 = bb at hbl hqn
      refine px_callVv (C := RX4) (T := TX4) (N := 4) (st := []) (nn := 1) hC (c_gTwice l E L _ rs pr nr 0 bb ur vr (kR u nr ur) (by omega) r2 r3 hbl) (kR u nr ur).1 rfl gX4_quotient_X4_twice rfl (by decide +kernel) (by decide) (Nat.le_of_ble_eq_true rfl) (by decide) rfl rfl dX4_quotient_57 (fun f2 h2 => ?_)
      obtain ⟨nr2, ur2, d1, d2, d3, d4, rfl⟩ := h2
      rw [px_uc _ _ _ (fun h => e8 h.symm), px_uu, px_uu]
      refine px_aload_n hC 3 rfl dX4_quotient_60 ?_
      refine px_aload_n hC 2 rfl dX4_quotient_61 ?_
      refine px_callVi (C := RX4) (T := TX4) (N := 4) (st := []) (nn := 1) hC (c_gCmp l E L _ rs pr g2 pa2 nr2 0 n2 mi2 ur2 y vr vv2 (kR u nr2 ur2) (kB u nr2 ur2) d1 b1 d2 b2 d3 b3) (kR u nr2 ur2).1 rfl gX4_quotient_X4_compare rfl (by decide +kernel) (by decide) (Nat.le_of_ble_eq_true rfl) (by decide) rfl rfl dX4_quotient_62 (fun z2 f3 h3 => ?_)
      obtain ⟨rfl, h3⟩ := h3
      rw [d4] at h3
      have big : (0 ≤ z2 ∧ vl 268435456 y n2 ≤ 2 * vl 268435456 ur nr + bb) ∨ (z2 = (-1) ∧ 2 * vl 268435456 ur nr + bb < vl 268435456 y n2) := by
        rcases h3 with ⟨rfl, h⟩ | ⟨rfl, h⟩ | ⟨rfl, h⟩
        · exact Or.inl ⟨by decide, by omega⟩
        · exact Or.inl ⟨by decide, by omega⟩
        · exact Or.inr ⟨rfl, h⟩
      have next : ∀ (u' : Nat → Nat) (nr' : Nat) (ur' : Nat → Nat), (∀ i, i < 40 → u' i < 268435456) → vl 268435456 u' 40 = 2 ^ t * (vl 268435456 x n1 / 2 ^ t / vl 268435456 y n2) → gC nr' 0 ur' ((vl 268435456 x n1 / 2 ^ t % vl 268435456 y n2 : Nat) : Int) → px p l e (px_rm 2 47) s m [.ref g, .ref g1, .ref g2, .ref rs].toArray below meth c 5 E A s.heap L (va_up (va_up (va_up f pa (aI E 40 (iw u'))) rs (.inr (3, gF pr (nI nr') (nI 0) vr))) pr (aI E 40 (iw ur'))) 0 0 Q 94 [(0, .ref g), (1, .ref g1), (2, .ref g2), (3, .ref rs), (4, .int (nI t))] [] := by
        intro u' nr' ur' c1 c2 c3
        refine px_iinc (v := (nI t - nI 1)) (lv' := [(0, .ref g), (1, .ref g1), (2, .ref g2), (3, .ref rs), (4, .int (nI t - nI 1))]) hC 4 [1, 2, 3, 4, 0] dX4_quotient_94 rfl (by rw [Int32.sub_eq_add_neg]; rfl) (by decide) rfl ?_
        refine px_goto hC 45 dX4_quotient_97 (by decide) ?_
        exact ih u' nr' ur' (by omega) c1 c2 c3
      have e2t : 2 ^ (t + 1) * (vl 268435456 x n1 / 2 ^ (t + 1) / vl 268435456 y n2) = 2 ^ t * (2 * (vl 268435456 x n1 / 2 ^ (t + 1) / vl 268435456 y n2)) := by rw [Nat.pow_succ, Nat.mul_assoc]
      rcases big with ⟨h0, h⟩ | ⟨h0, h⟩
      · rw [if_pos h, if_pos h] at hqn
        have hnn : n2 ≤ nr2 := gC_len b3 (Nat.lt_of_le_of_lt h (by rw [← d4]; exact vl_lt d2))
        obtain ⟨o1, o2⟩ := q_or hu (by omega) hv
        have hpl : 2 ^ (t % 28) < 2 ^ 28 := Nat.pow_lt_pow_right (by decide) (by omega)
        have hut := hu (t / 28) (by omega)
        refine px_if_lt hC 94 dX4_quotient_65 (by decide) (fun q9 => absurd q9 (Int32.not_lt.mpr h0)) (fun _ => ?_)
        refine px_aload_n hC 3 rfl dX4_quotient_68 ?_
        refine px_aload_n hC 3 rfl dX4_quotient_69 ?_
        refine px_aload_n hC 2 rfl dX4_quotient_70 ?_
        refine px_callVv (C := RX4) (T := TX4) (N := 4) (st := []) (nn := 2) hC (c_gTakA l E L _ rs pr g2 pa2 nr2 0 n2 mi2 ur2 y vr vv2 (kR u nr2 ur2) (kB u nr2 ur2) hq2 d1 b1 d2 b2 hnn (by rw [d4]; exact h)) (kR u nr2 ur2).1 rfl gX4_quotient_X4_takeAmount rfl (by decide +kernel) (by decide) (Nat.le_of_ble_eq_true rfl) (by decide) rfl rfl dX4_quotient_71 (fun f4 h4 => ?_)
        obtain ⟨nr3, ur3, c1, c2, c3, c4, rfl⟩ := h4
        rw [px_uc _ _ _ (fun h => e8 h.symm), px_uu, px_uu, show (if nr3 = 0 then 0 else 0) = 0 from by split <;> rfl]
        refine px_aload_n hC 0 rfl dX4_quotient_74 ?_
        refine px_get (C := RX4) (T := TX4) (N := 4) hC (kS u nr3 ur3) rfl kkX4_quotient_X4 0 (by decide) flX4_quotient_9 rfl dX4_quotient_75 ?_
        refine px_iload hC 4 rfl dX4_quotient_78 ?_
        refine px_bipush (v := nI 28) hC (by decide) dX4_quotient_80 ?_
        refine px_idiv hC (by decide) dX4_quotient_82 ?_
        refine px_ei (y := nI (t / 28)) (pk_div (by omega) (by decide) (by decide)) ?_
        refine px_dup2 hC rfl rfl dX4_quotient_83 ?_
        refine px_iald hC (kP u nr3 ur3) (by omega) (by first | decide | assumption | omega) dX4_quotient_84 ?_
        refine px_iconst (v := nI 1) hC (by decide) dX4_quotient_85 ?_
        refine px_iload hC 4 rfl dX4_quotient_86 ?_
        refine px_bipush (v := nI 28) hC (by decide) dX4_quotient_88 ?_
        refine px_irem hC (by decide) dX4_quotient_90 ?_
        refine px_ei (y := nI (t % 28)) (pk_rem (by omega) (by decide) (by decide)) ?_
        refine px_ishl hC dX4_quotient_91 ?_
        refine px_ei (y := nI (1 * 2 ^ (t % 28))) (pk_shlN (n := 1) _ (t % 28) (sm_31 _ (by omega)) (by omega)) ?_
        refine px_ior hC dX4_quotient_92 ?_
        refine px_ei (y := nI (u (t / 28) + 2 ^ (t % 28))) (by rw [Nat.one_mul, show iw u (t / 28) = nI (u (t / 28)) from rfl, nI_or (by omega) (by omega), o1]) ?_
        refine px_iast hC (kP u nr3 ur3) (by omega) (by first | decide | assumption | omega) dX4_quotient_93 ?_
        rw [iw_up, px_u3 _ _ _ _ _ (fun h => e7 h.symm) hpr]
        refine next (un u (t / 28) (u (t / 28) + 2 ^ (t % 28))) nr3 ur3 (fun i hi => ?_) ?_ ?_
        · by_cases q : i = t / 28
          · subst q; rw [un_s]; exact o2
          · rw [un_n _ _ q]; exact hu i hi
        · have hu2 := vl_u (B := 268435456) (x := u) (n := 40) (j := t / 28) (z := u (t / 28) + 2 ^ (t % 28)) (by omega)
          have e28 : 2 ^ (t % 28) * 268435456 ^ (t / 28) = 2 ^ t := by
            rw [show (268435456 : Nat) = 2 ^ 28 from rfl, ← Nat.pow_mul, ← Nat.pow_add]; congr 1; omega
          rw [Nat.add_mul, e28] at hu2
          rw [hqn.1, Nat.mul_add, Nat.mul_one, ← e2t, ← hv]
          omega
        · rw [hqn.2]
          refine ⟨c1, c2, c3, by decide, ?_, ⟨fun h => absurd h (by decide), fun h => absurd h (by omega)⟩⟩
          rw [Int.natAbs_natCast]
          omega
      · rw [if_neg (by omega), if_neg (by omega)] at hqn
        subst h0
        refine px_if_lt hC 94 dX4_quotient_65 (by decide) (fun _ => ?_) (fun q9 => (q9 (by decide)).elim)
        refine next u nr2 ur2 hu (by rw [hqn.1, Nat.add_zero, ← e2t]; exact hv) ?_
        rw [hqn.2]
        refine ⟨d1, d2, d3, by decide, ?_, ⟨fun h => absurd h (by decide), fun h => absurd h (by omega)⟩⟩
        rw [Int.natAbs_natCast]
        omega
  have zero : ∀ (d k : Nat) (u : Nat → Nat), k + d = 40 → (∀ i, i < k → u i = 0) → px p l e (px_rm 2 47) s m [.ref g, .ref g1, .ref g2, .ref rs].toArray below meth c 5 E A s.heap L (va_up f pa (aI E 40 (iw u))) 0 0 Q 3 [(0, .ref g), (1, .ref g1), (2, .ref g2), (3, .ref rs), (4, .int (nI k))] [] := by
    intro d
    induction d with
    | zero =>
      intro k u hk hu
      have ek : k = 40 := by omega
      subst ek
      refine px_iload hC 4 rfl dX4_quotient_3 ?_
      refine px_bipush (v := nI 40) hC (by decide) dX4_quotient_5 ?_
      refine px_icmp_ge hC 24 dX4_quotient_7 (by decide) (fun _ => ?_) (fun q9 => (q9 (by decide)).elim)
      refine px_aload_n hC 3 rfl dX4_quotient_24 ?_
      refine px_iconst (v := nI 0) hC (by decide) dX4_quotient_25 ?_
      refine px_put (C := RX4) (T := TX4) (N := 4) (fs' := gF pr (nI 0) (nI mi3) vr) hC (hR.1.up e7) rfl kkX4_quotient_X4 1 (by decide) tyX4 tyX4_ok nmX4 flX4_quotient_15 rfl rfl rfl (Nat.le_of_ble_eq_true rfl) rfl dX4_quotient_26 ?_
      refine px_aload_n hC 3 rfl dX4_quotient_29 ?_
      refine px_iconst (v := nI 0) hC (by decide) dX4_quotient_30 ?_
      refine px_put (C := RX4) (T := TX4) (N := 4) (fs' := gF pr (nI 0) (nI 0) vr) hC (hR.1.up e7).self rfl kkX4_quotient_X4 2 (by decide) tyX4 tyX4_ok nmX4 flX4_quotient_19 rfl (by decide) (by decide) (Nat.le_of_ble_eq_true rfl) rfl dX4_quotient_31 ?_
      rw [px_uu]
      refine px_bipush (v := nI 28) hC (by decide) dX4_quotient_34 ?_
      refine px_aload_n hC 1 rfl dX4_quotient_36 ?_
      refine px_get (C := RX4) (T := TX4) (N := 4) hC ((hA.1.up e2).up (fun h => hr1 h.symm)) rfl kkX4_quotient_X4 1 (by decide) flX4_quotient_15 rfl dX4_quotient_37 ?_
      refine px_imul hC dX4_quotient_40 ?_
      refine px_iconst (v := nI 1) hC (by decide) dX4_quotient_41 ?_
      refine px_isub hC dX4_quotient_42 ?_
      refine px_ei (y := (nI (28 * n1) - nI 1)) (by rw [pk_mul]) ?_
      refine px_istore (lv' := [(0, .ref g), (1, .ref g1), (2, .ref g2), (3, .ref rs), (4, .int (nI (28 * n1) - nI 1))]) hC [1, 2, 3, 4, 0] dX4_quotient_43 (by decide) rfl ?_
      have h0 := loop (28 * n1) u 0 x3 (Nat.le_refl _) (fun i hi => by rw [hu i hi]; decide) (by
        rw [vl_c (y := fun _ => 0) hu, vl_0, Nat.div_eq_of_lt (a := vl 268435456 x n1) (by rw [Nat.pow_mul]; exact lx), Nat.zero_div, Nat.mul_zero]) ⟨by decide, fun i hi => absurd hi (by omega), fun h => absurd rfl h, by decide, by
        rw [Nat.div_eq_of_lt (a := vl 268435456 x n1) (by rw [Nat.pow_mul]; exact lx), Nat.zero_mod]; rfl, ⟨fun h => absurd h (by decide), fun h => absurd h (by omega)⟩⟩
      rw [px_us ((hR.2.up (fun h => hpr h.symm)).up (fun h => e8 h.symm)).2] at h0
      exact h0
    | succ d ih =>
      intro k u hk hu
      refine px_iload hC 4 rfl dX4_quotient_3 ?_
      refine px_bipush (v := nI 40) hC (by decide) dX4_quotient_5 ?_
      refine px_icmp_ge hC 24 dX4_quotient_7 (by decide) (fun q9 => absurd q9 (nI_ge (by omega) (by omega))) (fun _ => ?_)
      refine px_aload_n hC 0 rfl dX4_quotient_10 ?_
      refine px_get (C := RX4) (T := TX4) (N := 4) hC (hS.1.up e1) rfl kkX4_quotient_X4 0 (by decide) flX4_quotient_9 rfl dX4_quotient_11 ?_
      refine px_iload hC 4 rfl dX4_quotient_14 ?_
      refine px_iconst (v := nI 0) hC (by decide) dX4_quotient_16 ?_
      refine px_iast hC hS.2.self (by omega) (by first | decide | assumption | omega) dX4_quotient_17 ?_
      rw [px_uu, iw_up]
      refine px_iinc (v := nI (k + 1)) (lv' := [(0, .ref g), (1, .ref g1), (2, .ref g2), (3, .ref rs), (4, .int (nI (k + 1)))]) hC 4 [1, 2, 3, 4, 0] dX4_quotient_18 rfl (nI_1 k) (by decide) rfl ?_
      refine px_goto hC 3 dX4_quotient_21 (by decide) ?_
      refine ih (k + 1) _ (by omega) (fun i hi => ?_)
      by_cases q : i = k
      · subst q; rw [un_s]
      · rw [un_n _ _ q]; exact hu i (by omega)
  refine px_iconst (v := nI 0) hC (by decide) dX4_quotient_0 ?_
  refine px_istore (lv' := [(0, .ref g), (1, .ref g1), (2, .ref g2), (3, .ref rs), (4, .int (nI 0))]) hC [1, 2, 3, 4, 0] dX4_quotient_1 (by decide) rfl ?_
  have h0 := zero 40 0 x0 (by omega) (fun i hi => absurd hi (by omega))
  rw [px_us hS.2.2] at h0
  exact h0
