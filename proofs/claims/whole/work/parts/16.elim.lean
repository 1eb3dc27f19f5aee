def eD (np od wk : Nat) (cr : Nat → Option Nat) (ad : Nat → Nat) : Prop := (∀ t, t < 110 → cr t = some (ad t)) ∧ (∀ t u, t < 110 → u < 110 → ad t = ad u → t = u) ∧ (∀ t, t < 110 → ad t ≠ np ∧ ad t ≠ od ∧ ad t ≠ wk) ∧ np ≠ od ∧ np ≠ wk ∧ od ≠ wk
/-- which cells of a column's clearing are done -/
def dn (n k r x i j : Nat) : Prop := i < n ∧ i ≠ k ∧ k < j ∧ j ≤ n ∧ (i < r ∨ (i = r ∧ j < x))
def ccI (E : px_E) (L : List Nat) (f g : Nat → va_E) (wk : Nat) (ad : Nat → Nat) (V : Nat → Nat → Int) (n k r x : Nat) : Prop := (∃ z, px_at L g wk (aJ E 21 z)) ∧ (∀ i j, dn n k r x i j → cR E L g (ad (i * 11 + j)) (V i j)) ∧ ∀ b, b ≠ wk → (∀ i j, dn n k r x i j → b ≠ ad (i * 11 + j)) → g b = f b
theorem flX0_clearColumn_28 : Cond.fieldLink RX0 28 "RowReduction$Elimination" "size" "I" ∈ wsX0_clearColumn := by decide +kernel
theorem kkX0_clearColumn_X0 : ∀ w ∈ wsX00, w ∈ wsX0_clearColumn := fun _ h => List.mem_cons_of_mem _ (List.mem_append_right _ h)
theorem c_clear (l : Launch) (E : px_E) (L : List Nat) (f : Nat → va_E) (q k n : Nat) {cs np od wk : Nat} {eb : Int32} {t iv mw ww : Nat} {cr : Nat → Option Nat} {ad : Nat → Nat} {r0 : Nat → Int64} {nx ox : Nat → Nat} {d d' : Int} {M V : Nat → Nat → Int} (hq : px_at L f q (.inr (0, eF cs np od wk (nI n) eb (nI t) (lN iv) (nI mw) (nI ww)))) (hcs : px_at L f cs (aJJ E 110 cr)) (hD : eD np od wk cr ad) (hn : n ≤ 10) (hk : k < n) (hwk : px_at L f wk (aJ E 21 r0)) (hnp : px_at L f np (aJ E 21 (lw nx))) (hod : px_at L f od (aJ E 21 (lw ox))) (hdn : dg nx) (hdo : dg ox) (hM : ∀ i j, i < n → k ≤ j → j ≤ n → cR E L f (ad (i * 11 + j)) (M i j)) (hp : cg ((4294967296 ^ 21 : Nat) : Int) (vl 4294967296 nx 21) (-(M k k))) (ho : cg ((4294967296 ^ 21 : Nat) : Int) ((vl 4294967296 ox 21 : Int) * ((2 ^ t : Nat) : Int)) d) (hiv : iv < 4294967296) (hi1 : iv * ox 0 % 4294967296 = 1) (hd : d = ((2 ^ t : Nat) : Int) * d') (hdo' : d' % 2 = 1) (hZ : ∀ i j, i < n → i ≠ k → k < j → j ≤ n → M k k * M i j - M i k * M k j = d * V i j) (h1 : 1 ≤ mw) (hww : ww = mw + t / 32 + 1) (hw21 : ww ≤ 21) (ht : t + 32 * mw ≤ 672) (hv : ∀ i j, i < n → i ≠ k → k < j → j ≤ n → -((4294967296 ^ mw : Nat) : Int) < 2 * V i j ∧ 2 * V i j < ((4294967296 ^ mw : Nat) : Int)) : px_M l yX0_clearColumn wsX0_clearColumn (px_rm 4 92) E L f [.ref q, .int (nI k)] (px_v L (fun f' => ccI E L f f' wk ad V n k n 0)) := by
  refine px_M.of (cc := cX0_clearColumn) (maxL := 4) (ret := none) (lv := [(0, .ref q), (1, .int (nI k))]) (by decide) rfl (Nat.le_of_ble_eq_true rfl) rfl ?_
  intro p e s m below meth c A hC hnm
  obtain ⟨Q, hQ⟩ : ∃ Q, Q = MQ below (px_Q E (px_v L (fun f' => ccI E L f f' wk ad V n k n 0)) A) [.ref q, .int (nI k)].toArray s (px_rm 4 92).cells (px_rm 4 92).slots A := ⟨_, rfl⟩
  rw [← hQ]
  obtain ⟨hD1, hD2, hD3, hno, hnw, how⟩ := hD
  have hqw : q ≠ wk := hq.nk hwk rfl
  have hcw : cs ≠ wk := hcs.nk hwk rfl
  have hqa : ∀ i j, i < n → k ≤ j → j ≤ n → q ≠ ad (i * 11 + j) := fun i j a1 a2 a3 => by
    obtain ⟨x, hx, -⟩ := hM i j a1 a2 a3
    exact hq.nk hx rfl
  have hca : ∀ i j, i < n → k ≤ j → j ≤ n → cs ≠ ad (i * 11 + j) := fun i j a1 a2 a3 => by
    obtain ⟨x, hx, -⟩ := hM i j a1 a2 a3
    exact hcs.nk hx rfl
  have hqG : ∀ g r x, ccI E L f g wk ad V n k r x → px_at L g q (.inr (0, eF cs np od wk (nI n) eb (nI t) (lN iv) (nI mw) (nI ww))) := fun g r x h => hq.fr (h.2.2 q hqw (fun i j hd => hqa i j hd.1 (by have := hd.2.2.1; omega) hd.2.2.2.1))
  have hcG : ∀ g r x, ccI E L f g wk ad V n k r x → px_at L g cs (aJJ E 110 cr) := fun g r x h => hcs.fr (h.2.2 cs hcw (fun i j hd => hca i j hd.1 (by have := hd.2.2.1; omega) hd.2.2.2.1))
  have hMG : ∀ g r x i j, ccI E L f g wk ad V n k r x → i < n → k ≤ j → j ≤ n → ¬ dn n k r x i j → cR E L g (ad (i * 11 + j)) (M i j) := fun g r x i j h a1 a2 a3 a4 => (hM i j a1 a2 a3).fr (h.2.2 _ (hD3 _ (by omega)).2.2 (fun i' j' hd he => by
    have h5 := hD2 _ _ (by omega) (by have := hd.1; have := hd.2.2.2.1; omega) he
    have h6 := hd.2.2.2.1
    have e1 : i = i' := by omega
    have e2 : j = j' := by omega
    subst e1; subst e2
    exact a4 hd))
  have hnG : ∀ g r x, ccI E L f g wk ad V n k r x → px_at L g np (aJ E 21 (lw nx)) := fun g r x h => hnp.fr (h.2.2 np hnw (fun i j hd he => (hD3 (i * 11 + j) (by have := hd.1; have := hd.2.2.2.1; omega)).1 he.symm))
  have hoG : ∀ g r x, ccI E L f g wk ad V n k r x → px_at L g od (aJ E 21 (lw ox)) := fun g r x h => hod.fr (h.2.2 od how (fun i j hd he => (hD3 (i * 11 + j) (by have := hd.1; have := hd.2.2.2.1; omega)).2.1 he.symm))
  have nxt : ∀ g r x x2, ccI E L f g wk ad V n k r x → (r = k ∨ n < x) → ccI E L f g wk ad V n k (r + 1) x2 ∨ x2 ≠ 0 := fun g r x x2 h hx => by
    by_cases q0 : x2 = 0
    · left
      subst q0
      have hiff : ∀ i j, dn n k (r + 1) 0 i j ↔ dn n k r x i j := by
        intro i j
        unfold dn
        omega
      exact ⟨h.1, fun i j hd => h.2.1 i j ((hiff i j).mp hd), fun b hb hd => h.2.2 b hb (fun i j h3 => hd i j ((hiff i j).mpr h3))⟩
    · exact Or.inr q0
  have outer : ∀ (u r : Nat) (g : Nat → va_E), r + u = n → ccI E L f g wk ad V n k r 0 → px p l e (px_rm 4 92) s m [.ref q, .int (nI k)].toArray below meth c 4 E A s.heap L (g) 0 0 Q 2 [(0, .ref q), (1, .int (nI k)), (2, .int (nI r))] [] := by
    intro u
    induction u with
    | zero =>
      intro r g hr hI
      have e1 : r = n := by omega
      subst e1
      refine px_iload_n hC 2 rfl dX0_clearColumn_2 ?_
      refine px_aload_n hC 0 rfl dX0_clearColumn_3 ?_
      refine px_get (C := RX0) (T := TX0) (N := 10) hC (hqG _ _ _ hI) rfl kkX0_clearColumn_X0 4 (by decide) flX0_clearColumn_28 rfl dX0_clearColumn_4 ?_
      refine px_icmp_ge hC 61 dX0_clearColumn_7 (by decide) (fun _ => ?_) (fun q9 => (q9 (nI_le (Nat.le_refl r) (by omega))).elim)
      subst hQ
      exact px_vret hC rfl (⟨rfl, rfl, hI⟩) dX0_clearColumn_61
    | succ u ihu =>
      intro r g hr hI
      have inner : ∀ (v x : Nat) (g : Nat → va_E), x + v = n + 1 → k < x → ccI E L f g wk ad V n k r x → px p l e (px_rm 4 92) s m [.ref q, .int (nI k)].toArray below meth c 4 E A s.heap L (g) 0 0 Q 14 [(0, .ref q), (1, .int (nI k)), (2, .int (nI r)), (3, .int (nI x))] [] := by
        intro v
        induction v with
        | zero =>
          intro x g hx hkx hI
          have hI2 := (nxt g r x 0 hI (Or.inr (by omega))).resolve_right (fun h => h rfl)
          refine px_iload_n hC 2 rfl dX0_clearColumn_14 ?_
          refine px_iload_n hC 1 rfl dX0_clearColumn_15 ?_
          by_cases hrk : r = k
          · refine px_icmp_eq hC 55 dX0_clearColumn_16 (by decide) (fun _ => ?_) (fun q9 => (q9 (by rw [hrk])).elim)
            refine px_iinc (v := nI (r + 1)) (lv' := [(0, .ref q), (1, .int (nI k)), (2, .int (nI (r + 1))), (3, .int (nI x))]) hC 2 [1, 2, 0, 3] dX0_clearColumn_55 rfl (nI_1 r) (by decide) rfl ?_
            refine px_goto hC 2 dX0_clearColumn_58 (by decide) ?_
            refine px_lv (lv2 := [(0, .ref q), (1, .int (nI k)), (2, .int (nI (r + 1)))]) [0, 1, 2] rfl ?_
            exact ihu (r + 1) g (by omega) hI2
          · refine px_icmp_eq hC 55 dX0_clearColumn_16 (by decide) (fun q9 => absurd q9 (fun h => hrk ((nI_eq (by omega) (by omega)).mp h))) (fun _ => ?_)
            refine px_iload_n hC 3 rfl dX0_clearColumn_19 ?_
            refine px_aload_n hC 0 rfl dX0_clearColumn_20 ?_
            refine px_get (C := RX0) (T := TX0) (N := 10) hC (hqG _ _ _ hI) rfl kkX0_clearColumn_X0 4 (by decide) flX0_clearColumn_28 rfl dX0_clearColumn_21 ?_
            refine px_icmp_gt hC 55 dX0_clearColumn_24 (by decide) (fun _ => ?_) (fun q9 => (q9 (nI_lt (by omega) (by omega))).elim)
            refine px_iinc (v := nI (r + 1)) (lv' := [(0, .ref q), (1, .int (nI k)), (2, .int (nI (r + 1))), (3, .int (nI x))]) hC 2 [1, 2, 0, 3] dX0_clearColumn_55 rfl (nI_1 r) (by decide) rfl ?_
            refine px_goto hC 2 dX0_clearColumn_58 (by decide) ?_
            refine px_lv (lv2 := [(0, .ref q), (1, .int (nI k)), (2, .int (nI (r + 1)))]) [0, 1, 2] rfl ?_
            exact ihu (r + 1) g (by omega) hI2
        | succ v ihv =>
          intro x g hx hkx hI
          refine px_iload_n hC 2 rfl dX0_clearColumn_14 ?_
          refine px_iload_n hC 1 rfl dX0_clearColumn_15 ?_
          by_cases hrk : r = k
          · have hI2 := (nxt g r x 0 hI (Or.inl hrk)).resolve_right (fun h => h rfl)
            refine px_icmp_eq hC 55 dX0_clearColumn_16 (by decide) (fun _ => ?_) (fun q9 => (q9 (by rw [hrk])).elim)
            refine px_iinc (v := nI (r + 1)) (lv' := [(0, .ref q), (1, .int (nI k)), (2, .int (nI (r + 1))), (3, .int (nI x))]) hC 2 [1, 2, 0, 3] dX0_clearColumn_55 rfl (nI_1 r) (by decide) rfl ?_
            refine px_goto hC 2 dX0_clearColumn_58 (by decide) ?_
            refine px_lv (lv2 := [(0, .ref q), (1, .int (nI k)), (2, .int (nI (r + 1)))]) [0, 1, 2] rfl ?_
            exact ihu (r + 1) g (by omega) hI2
          · have hra := hMG g r x r x hI (by omega) (by omega) (by omega) (by unfold dn; omega)
            have hrb := hMG g r x r k hI (by omega) (Nat.le_refl k) (by omega) (by unfold dn; omega)
            have hrc := hMG g r x k x hI hk (by omega) (by omega) (by unfold dn; omega)
            obtain ⟨zw, hzw⟩ := hI.1
            refine px_icmp_eq hC 55 dX0_clearColumn_16 (by decide) (fun q9 => absurd q9 (fun h => hrk ((nI_eq (by omega) (by omega)).mp h))) (fun _ => ?_)
            refine px_iload_n hC 3 rfl dX0_clearColumn_19 ?_
            refine px_aload_n hC 0 rfl dX0_clearColumn_20 ?_
            refine px_get (C := RX0) (T := TX0) (N := 10) hC (hqG _ _ _ hI) rfl kkX0_clearColumn_X0 4 (by decide) flX0_clearColumn_28 rfl dX0_clearColumn_21 ?_
            refine px_icmp_gt hC 55 dX0_clearColumn_24 (by decide) (fun q9 => absurd q9 (nI_nlt (by omega) (by omega))) (fun _ => ?_)
            refine px_aload_n hC 0 rfl dX0_clearColumn_27 ?_
            refine px_aload_n hC 0 rfl dX0_clearColumn_28 ?_
            refine px_iload_n hC 2 rfl dX0_clearColumn_29 ?_
            refine px_iload_n hC 3 rfl dX0_clearColumn_30 ?_
            refine px_callVr (C := RX0) (T := TX0) (N := 10) (st := [.ref q]) (nn := 2) hC (c_cell l E L _ q r x (hqG _ _ _ hI) (hcG _ _ _ hI) (hD1 _ (by omega)) (by omega)) (hqG _ _ _ hI) rfl gX0_clearColumn_X0_cell rfl (by decide +kernel) (by decide) (Nat.le_of_ble_eq_true rfl) (by decide) rfl rfl dX0_clearColumn_31 (fun z1 f1 hz => ?_)
            obtain ⟨rfl, rfl⟩ := hz
            refine px_aload_n hC 0 rfl dX0_clearColumn_34 ?_
            refine px_iload_n hC 2 rfl dX0_clearColumn_35 ?_
            refine px_iload_n hC 1 rfl dX0_clearColumn_36 ?_
            refine px_callVr (C := RX0) (T := TX0) (N := 10) (st := [.ref (ad (r * 11 + x)), .ref q]) (nn := 2) hC (c_cell l E L _ q r k (hqG _ _ _ hI) (hcG _ _ _ hI) (hD1 _ (by omega)) (by omega)) (hqG _ _ _ hI) rfl gX0_clearColumn_X0_cell rfl (by decide +kernel) (by decide) (Nat.le_of_ble_eq_true rfl) (by decide) rfl rfl dX0_clearColumn_37 (fun z2 f2 hz => ?_)
            obtain ⟨rfl, rfl⟩ := hz
            refine px_aload_n hC 0 rfl dX0_clearColumn_40 ?_
            refine px_iload_n hC 1 rfl dX0_clearColumn_41 ?_
            refine px_iload_n hC 3 rfl dX0_clearColumn_42 ?_
            refine px_callVr (C := RX0) (T := TX0) (N := 10) (st := [.ref (ad (r * 11 + k)), .ref (ad (r * 11 + x)), .ref q]) (nn := 2) hC (c_cell l E L _ q k x (hqG _ _ _ hI) (hcG _ _ _ hI) (hD1 _ (by omega)) (by omega)) (hqG _ _ _ hI) rfl gX0_clearColumn_X0_cell rfl (by decide +kernel) (by decide) (Nat.le_of_ble_eq_true rfl) (by decide) rfl rfl dX0_clearColumn_43 (fun z3 f3 hz => ?_)
            obtain ⟨rfl, rfl⟩ := hz
            refine px_callVv (C := RX0) (T := TX0) (N := 10) (st := []) (nn := 3) hC (c_repl l E L _ q (ad (r * 11 + x)) (ad (r * 11 + k)) (ad (k * 11 + x)) (v := V r x) (hqG _ _ _ hI) hzw (hnG _ _ _ hI) (hoG _ _ _ hI) hdn hdo hra hrb hrc (hD3 _ (by omega)).2.2 (hD3 _ (by omega)).2.2 (hD3 _ (by omega)).2.2 hnw how hp ho hiv hi1 hd hdo' (hZ r x (by omega) hrk (by omega) (by omega)) h1 hww hw21 ht (hv r x (by omega) hrk (by omega) (by omega))) (hqG _ _ _ hI) rfl gX0_clearColumn_X0_replace rfl (by decide +kernel) (by decide) (Nat.le_of_ble_eq_true rfl) (by decide) rfl rfl dX0_clearColumn_46 (fun f4 h4 => ?_)
            obtain ⟨y, r', dy, sy, rfl⟩ := h4
            refine px_iinc (v := nI (x + 1)) (lv' := [(0, .ref q), (1, .int (nI k)), (2, .int (nI r)), (3, .int (nI (x + 1)))]) hC 3 [1, 2, 3, 0] dX0_clearColumn_49 rfl (nI_1 x) (by decide) rfl ?_
            refine px_goto hC 14 dX0_clearColumn_52 (by decide) ?_
            refine ihv (x + 1) _ (by omega) (by omega) ⟨⟨r', ?_⟩, fun i j hd2 => ?_, fun b hb hd2 => ?_⟩
            · exact (hzw.self).up (fun h => (hD3 _ (by omega)).2.2 h.symm)
            · by_cases q0 : i = r ∧ j = x
              · obtain ⟨rfl, rfl⟩ := q0
                obtain ⟨xr, hxr, -⟩ := hra
                exact ⟨y, (hxr.up (hD3 _ (by omega)).2.2).self, dy, sy⟩
              · have h5 : dn n k r x i j := by unfold dn at hd2 ⊢; omega
                have h6 : i * 11 + j < 110 := by have := h5.1; have := h5.2.2.2.1; omega
                refine (hI.2.1 i j h5).fr ?_
                rw [va_up_ne _ _ (fun h => q0 (by have := hD2 _ _ h6 (by omega) h; have := h5.2.2.2.1; omega)), va_up_ne _ _ (hD3 _ h6).2.2]
            · rw [va_up_ne _ _ (hd2 r x (by unfold dn; omega)), va_up_ne _ _ hb]
              exact hI.2.2 b hb (fun i j h5 => hd2 i j (by unfold dn at h5 ⊢; omega))
      refine px_iload_n hC 2 rfl dX0_clearColumn_2 ?_
      refine px_aload_n hC 0 rfl dX0_clearColumn_3 ?_
      refine px_get (C := RX0) (T := TX0) (N := 10) hC (hqG _ _ _ hI) rfl kkX0_clearColumn_X0 4 (by decide) flX0_clearColumn_28 rfl dX0_clearColumn_4 ?_
      refine px_icmp_ge hC 61 dX0_clearColumn_7 (by decide) (fun q9 => absurd q9 (nI_ge (by omega) (by omega))) (fun _ => ?_)
      refine px_iload_n hC 1 rfl dX0_clearColumn_10 ?_
      refine px_iconst (v := nI 1) hC (by decide) dX0_clearColumn_11 ?_
      refine px_iadd hC dX0_clearColumn_12 ?_
      refine px_ei (y := nI (k + 1)) (nI_add _ _) ?_
      refine px_istore_n (lv' := [(0, .ref q), (1, .int (nI k)), (2, .int (nI r)), (3, .int (nI (k + 1)))]) hC [1, 2, 3, 0] dX0_clearColumn_13 (by decide) rfl ?_
      have hI3 : ccI E L f g wk ad V n k r (k + 1) := by
        have hiff : ∀ i j, dn n k r (k + 1) i j ↔ dn n k r 0 i j := by
          intro i j
          unfold dn
          omega
        exact ⟨hI.1, fun i j hd => hI.2.1 i j ((hiff i j).mp hd), fun b hb hd => hI.2.2 b hb (fun i j h3 => hd i j ((hiff i j).mpr h3))⟩
      exact inner (n - k) (k + 1) g (by omega) (by omega) hI3
  refine px_iconst (v := nI 0) hC (by decide) dX0_clearColumn_0 ?_
  refine px_istore_n (lv' := [(0, .ref q), (1, .int (nI k)), (2, .int (nI 0))]) hC [1, 2, 0] dX0_clearColumn_1 (by decide) rfl ?_
  exact outer n 0 f (by omega) ⟨⟨r0, hwk⟩, fun i j hd => absurd hd (by unfold dn; omega), fun b _ _ => rfl⟩
