/-! ===== load: the numbers, and how many bits they use ===== -/
def m32 (v : Int32) : Nat := if v < 0 then 4294967295 - v.toBitVec.toNat else v.toBitVec.toNat
theorem m32_lt (v : Int32) : m32 v < 2147483648 := by
  have h := i32_n v
  have hb := v.toBitVec.isLt
  unfold m32
  by_cases q2 : v < 0
  · have h1 : v.toInt < 0 := Int32.lt_iff_toInt_lt.mp q2
    rw [if_pos q2]
    by_cases q3 : 2147483648 ≤ v.toBitVec.toNat
    · omega
    · rw [if_neg q3] at h; omega
  · have h1 : ¬ v.toInt < 0 := fun h2 => q2 (Int32.lt_iff_toInt_lt.mpr h2)
    rw [if_neg q2]
    by_cases q3 : 2147483648 ≤ v.toBitVec.toNat
    · rw [if_pos q3] at h; omega
    · omega
theorem m32_abs (v : Int32) : v.toInt.natAbs ≤ m32 v + 1 := by
  have h := i32_n v
  have hb := v.toBitVec.isLt
  unfold m32
  by_cases q2 : v < 0
  · have h1 : v.toInt < 0 := Int32.lt_iff_toInt_lt.mp q2
    rw [if_pos q2]
    by_cases q3 : 2147483648 ≤ v.toBitVec.toNat
    · rw [if_pos q3] at h; omega
    · rw [if_neg q3] at h; omega
  · have h1 : ¬ v.toInt < 0 := fun h2 => q2 (Int32.lt_iff_toInt_lt.mpr h2)
    rw [if_neg q2]
    by_cases q3 : 2147483648 ≤ v.toBitVec.toNat
    · rw [if_pos q3] at h; omega
    · rw [if_neg q3] at h; omega
theorem nI_self (v : Int32) : nI v.toBitVec.toNat = v := Int32.toBitVec_inj.mp (by show BitVec.ofNat 32 _ = _; simp)
theorem m32_neg {v : Int32} (h : v < 0) : v ^^^ (-1) = nI (m32 v) := by
  unfold m32
  rw [if_pos h]
  apply Int32.toBitVec_inj.mp
  rw [Int32.toBitVec_xor, show ((-1 : Int32)).toBitVec = BitVec.allOnes 32 from by decide, BitVec.xor_allOnes]
  apply BitVec.eq_of_toNat_eq
  rw [BitVec.toNat_not]
  show _ = (BitVec.ofNat 32 _).toNat
  rw [BitVec.toNat_ofNat, Nat.mod_eq_of_lt (by omega)]
theorem m32_pos {v : Int32} (h : ¬ v < 0) : v = nI (m32 v) := by
  unfold m32
  rw [if_neg h, nI_self]
theorem nI_or {a b : Nat} (ha : a < 2 ^ 32) (hb : b < 2 ^ 32) : nI a ||| nI b = nI (a ||| b) := by
  apply Int32.toBitVec_inj.mp
  rw [Int32.toBitVec_or]
  apply BitVec.eq_of_toNat_eq
  show (BitVec.ofNat 32 a ||| BitVec.ofNat 32 b).toNat = (BitVec.ofNat 32 (a ||| b)).toNat
  rw [BitVec.toNat_or, BitVec.toNat_ofNat, BitVec.toNat_ofNat, BitVec.toNat_ofNat, Nat.mod_eq_of_lt ha, Nat.mod_eq_of_lt hb, Nat.mod_eq_of_lt (Nat.or_lt_two_pow ha hb)]
theorem su_31 : ∀ n, n < 32 → (((nI n).toUInt32 &&& Int32.toUInt32 31).toBitVec % 32).toNat = n := by decide +kernel
def ldn (n r x i j : Nat) : Prop := i < n ∧ j ≤ n ∧ (i < r ∨ (i = r ∧ j < x))
def ldI (E : px_E) (L : List Nat) (f g : Nat → va_E) (ad : Nat → Nat) (w : Nat → Nat → Int32) (n r x ub : Nat) : Prop := ub < 2147483648 ∧ (∀ i j, ldn n r x i j → cR E L g (ad (i * 11 + j)) (w i j).toInt ∧ m32 (w i j) ≤ ub) ∧ ∀ b, (∀ i j, ldn n r x i j → b ≠ ad (i * 11 + j)) → g b = f b
theorem flX0_load_32 : Cond.fieldLink RX0 32 "RowReduction$Elimination" "entryBits" "I" ∈ wsX0_load := by decide +kernel
theorem kkX0_load_X0 : ∀ w ∈ wsX00, w ∈ wsX0_load := fun _ h => List.mem_cons_of_mem _ (List.mem_append_right _ h)
theorem flX0_load_28 : Cond.fieldLink RX0 28 "RowReduction$Elimination" "size" "I" ∈ wsX0_load := by decide +kernel
theorem c_load (l : Launch) (E : px_E) (L : List Nat) (f : Nat → va_E) (q n sy : Nat) {cs np od wk : Nat} {eb0 tw : Int32} {iv : Int64} {mw ww : Int32} {cr sr : Nat → Option Nat} {ad ra : Nat → Nat} {w : Nat → Nat → Int32} (hq : px_at L f q (.inr (0, eF cs np od wk (nI n) eb0 tw iv mw ww))) (hcs : px_at L f cs (aJJ E 110 cr)) (hD : eD np od wk cr ad) (hA : ∀ t, t < 110 → ∃ r, px_at L f (ad t) (aJ E 21 r)) (hn : n ≤ 10) (hsy : px_at L f sy (aII E 10 sr)) (hra : ∀ i, i < 10 → sr i = some (ra i) ∧ px_at L f (ra i) (aI E 11 (w i))) : px_M l yX0_load wsX0_load (px_rm 2 45) E L f [.ref q, .ref sy] (px_v L (fun f' => ∃ eb g, eb ≤ 31 ∧ (∀ i j, i < n → j ≤ n → cR E L g (ad (i * 11 + j)) (w i j).toInt ∧ m32 (w i j) < 2 ^ eb) ∧ (∀ b, (∀ i j, i < n → j ≤ n → b ≠ ad (i * 11 + j)) → g b = f b) ∧ f' = va_up g q (.inr (0, eF cs np od wk (nI n) (nI eb) tw iv mw ww)))) := by
  refine px_M.of (cc := cX0_load) (maxL := 6) (ret := none) (lv := [(0, .ref q), (1, .ref sy)]) (by decide) rfl (Nat.le_of_ble_eq_true rfl) rfl ?_
  intro p e s m below meth c A hC hnm
  obtain ⟨Q, hQ⟩ : ∃ Q, Q = MQ below (px_Q E (px_v L (fun f' => ∃ eb g, eb ≤ 31 ∧ (∀ i j, i < n → j ≤ n → cR E L g (ad (i * 11 + j)) (w i j).toInt ∧ m32 (w i j) < 2 ^ eb) ∧ (∀ b, (∀ i j, i < n → j ≤ n → b ≠ ad (i * 11 + j)) → g b = f b) ∧ f' = va_up g q (.inr (0, eF cs np od wk (nI n) (nI eb) tw iv mw ww)))) A) [.ref q, .ref sy].toArray s (px_rm 2 45).cells (px_rm 2 45).slots A := ⟨_, rfl⟩
  rw [← hQ]
  obtain ⟨hD1, hD2, hD3, hno, hnw, how⟩ := hD
  have hqa : ∀ t, t < 110 → q ≠ ad t := fun t ht => by obtain ⟨r, hr⟩ := hA t ht; exact hq.nk hr rfl
  have hca : ∀ t, t < 110 → cs ≠ ad t := fun t ht => by obtain ⟨r, hr⟩ := hA t ht; exact hcs.nk hr rfl
  have hsa : ∀ t, t < 110 → sy ≠ ad t := fun t ht => by obtain ⟨r, hr⟩ := hA t ht; exact hsy.nk hr rfl
  have hrr : ∀ t i, t < 110 → i < 10 → ra i ≠ ad t := fun t i ht hi => by obtain ⟨r, hr⟩ := hA t ht; exact (hra i hi).2.nk hr rfl
  have hlt : ∀ {r x i j}, ldn n r x i j → i * 11 + j < 110 := fun h => by have := h.1; have := h.2.1; omega
  have hqG : ∀ g r x ub, ldI E L f g ad w n r x ub → px_at L g q (.inr (0, eF cs np od wk (nI n) eb0 tw iv mw ww)) := fun g r x ub h => hq.fr (h.2.2 q (fun i j hd => hqa _ (hlt hd)))
  have hcG : ∀ g r x ub, ldI E L f g ad w n r x ub → px_at L g cs (aJJ E 110 cr) := fun g r x ub h => hcs.fr (h.2.2 cs (fun i j hd => hca _ (hlt hd)))
  have hsG : ∀ g r x ub, ldI E L f g ad w n r x ub → px_at L g sy (aII E 10 sr) := fun g r x ub h => hsy.fr (h.2.2 sy (fun i j hd => hsa _ (hlt hd)))
  have hrG : ∀ g r x ub i, ldI E L f g ad w n r x ub → i < 10 → px_at L g (ra i) (aI E 11 (w i)) := fun g r x ub i h hi => (hra i hi).2.fr (h.2.2 _ (fun i' j hd => hrr _ _ (hlt hd) hi))
  have hcong : ∀ g r x r2 x2 ub, ldI E L f g ad w n r x ub → (∀ i j, ldn n r2 x2 i j ↔ ldn n r x i j) → ldI E L f g ad w n r2 x2 ub := fun g r x r2 x2 ub h hi => ⟨h.1, fun i j hd => h.2.1 i j ((hi i j).mp hd), fun b hd => h.2.2 b (fun i j h3 => hd i j ((hi i j).mpr h3))⟩
  have last : ∀ (g : Nat → va_E) (ub : Nat), ldI E L f g ad w n n 0 ub → ∀ (u eb : Nat), eb + u = 31 → px p l e (px_rm 2 45) s m [.ref q, .ref sy].toArray below meth c 6 E A s.heap L (va_up g q (.inr (0, eF cs np od wk (nI n) (nI eb) tw iv mw ww))) 0 0 Q 78 [(0, .ref q), (1, .ref sy), (2, .int (nI ub)), (3, .int (nI n))] [] := by
    intro g ub hI
    have hub := hI.1
    have fin : ∀ eb, eb ≤ 31 → ub < 2 ^ eb → ∃ eb' g', eb' ≤ 31 ∧ (∀ i j, i < n → j ≤ n → cR E L g' (ad (i * 11 + j)) (w i j).toInt ∧ m32 (w i j) < 2 ^ eb') ∧ (∀ b, (∀ i j, i < n → j ≤ n → b ≠ ad (i * 11 + j)) → g' b = f b) ∧ va_up g q (.inr (0, eF cs np od wk (nI n) (nI eb) tw iv mw ww)) = va_up g' q (.inr (0, eF cs np od wk (nI n) (nI eb') tw iv mw ww)) := fun eb h1 h2 => ⟨eb, g, h1, fun i j a1 a2 => by
      have h3 := hI.2.1 i j ⟨a1, a2, Or.inl a1⟩
      exact ⟨h3.1, by omega⟩, fun b hb => hI.2.2 b (fun i j hd => hb i j hd.1 hd.2.1), rfl⟩
    intro u
    induction u with
    | zero =>
      intro eb he
      have e1 : eb = 31 := by omega
      subst e1
      refine px_aload_n hC 0 rfl dX0_load_78 ?_
      refine px_get (C := RX0) (T := TX0) (N := 10) hC (hqG _ _ _ _ hI).self rfl kkX0_load_X0 5 (by decide) flX0_load_32 rfl dX0_load_79 ?_
      refine px_bipush (v := nI 31) hC (by decide) dX0_load_82 ?_
      refine px_icmp_ge hC 109 dX0_load_84 (by decide) (fun _ => ?_) (fun q9 => (q9 (by decide)).elim)
      subst hQ
      exact px_vret hC rfl (⟨rfl, rfl, fin 31 (by decide) hub⟩) dX0_load_109
    | succ u ih =>
      intro eb he
      refine px_aload_n hC 0 rfl dX0_load_78 ?_
      refine px_get (C := RX0) (T := TX0) (N := 10) hC (hqG _ _ _ _ hI).self rfl kkX0_load_X0 5 (by decide) flX0_load_32 rfl dX0_load_79 ?_
      refine px_bipush (v := nI 31) hC (by decide) dX0_load_82 ?_
      refine px_icmp_ge hC 109 dX0_load_84 (by decide) (fun q9 => absurd q9 (nI_ge (by omega) (by omega))) (fun _ => ?_)
      refine px_iload_n hC 2 rfl dX0_load_87 ?_
      refine px_aload_n hC 0 rfl dX0_load_88 ?_
      refine px_get (C := RX0) (T := TX0) (N := 10) hC (hqG _ _ _ _ hI).self rfl kkX0_load_X0 5 (by decide) flX0_load_32 rfl dX0_load_89 ?_
      refine px_iushr hC dX0_load_92 ?_
      refine px_ei (y := nI (ub / 2 ^ eb)) (pk_ushrN (by omega) (nI eb) eb (su_31 eb (by omega))) ?_
      by_cases h : ub / 2 ^ eb = 0
      · have h2 : ub < 2 ^ eb := by
          rcases Nat.div_eq_zero_iff.mp h with q0 | q0
          · have := Nat.pow_pos (n := eb) (show 0 < 2 by decide); omega
          · exact q0
        refine px_if_eq hC 109 dX0_load_93 (by decide) (fun _ => ?_) (fun q9 => (q9 (by rw [h]; rfl)).elim)
        subst hQ
        exact px_vret hC rfl (⟨rfl, rfl, fin eb (by omega) h2⟩) dX0_load_109
      · refine px_if_eq hC 109 dX0_load_93 (by decide) (fun q9 => absurd q9 (nI_ne0 (Nat.pos_of_ne_zero h) (Nat.lt_of_le_of_lt (Nat.div_le_self _ _) (by omega)))) (fun _ => ?_)
        refine px_aload_n hC 0 rfl dX0_load_96 ?_
        refine px_dup hC rfl dX0_load_97 ?_
        refine px_get (C := RX0) (T := TX0) (N := 10) hC (hqG _ _ _ _ hI).self rfl kkX0_load_X0 5 (by decide) flX0_load_32 rfl dX0_load_98 ?_
        refine px_iconst (v := nI 1) hC (by decide) dX0_load_101 ?_
        refine px_iadd hC dX0_load_102 ?_
        refine px_ei (y := nI (eb + 1)) (nI_add _ _) ?_
        refine px_put (C := RX0) (T := TX0) (N := 10) (fs' := eF cs np od wk (nI n) (nI (eb + 1)) tw iv mw ww) hC (hqG _ _ _ _ hI).self rfl kkX0_load_X0 5 (by decide) tyX0 tyX0_ok nmX0 flX0_load_32 rfl rfl rfl (Nat.le_of_ble_eq_true rfl) rfl dX0_load_103 ?_
        rw [px_uu]
        refine px_goto hC 78 dX0_load_106 (by decide) ?_
        exact ih (eb + 1) (by omega)
  have outer : ∀ (u r ub : Nat) (g : Nat → va_E), r + u = n → ldI E L f g ad w n r 0 ub → px p l e (px_rm 2 45) s m [.ref q, .ref sy].toArray below meth c 6 E A s.heap L (g) 0 0 Q 4 [(0, .ref q), (1, .ref sy), (2, .int (nI ub)), (3, .int (nI r))] [] := by
    intro u
    induction u with
    | zero =>
      intro r ub g hr hI
      have e1 : r = n := by omega
      subst e1
      refine px_iload_n hC 3 rfl dX0_load_4 ?_
      refine px_aload_n hC 0 rfl dX0_load_5 ?_
      refine px_get (C := RX0) (T := TX0) (N := 10) hC (hqG _ _ _ _ hI) rfl kkX0_load_X0 4 (by decide) flX0_load_28 rfl dX0_load_6 ?_
      refine px_icmp_ge hC 73 dX0_load_9 (by decide) (fun _ => ?_) (fun q9 => (q9 (nI_le (Nat.le_refl r) (by omega))).elim)
      refine px_aload_n hC 0 rfl dX0_load_73 ?_
      refine px_iconst (v := nI 0) hC (by decide) dX0_load_74 ?_
      refine px_put (C := RX0) (T := TX0) (N := 10) (fs' := eF cs np od wk (nI r) (nI 0) tw iv mw ww) hC (hqG _ _ _ _ hI) rfl kkX0_load_X0 5 (by decide) tyX0 tyX0_ok nmX0 flX0_load_32 rfl rfl rfl (Nat.le_of_ble_eq_true rfl) rfl dX0_load_75 ?_
      exact last g ub hI 31 0 (by omega)
    | succ u ihu =>
      intro r ub g hr hI
      have inner : ∀ (v x ub : Nat) (g : Nat → va_E), x + v = n + 1 → ldI E L f g ad w n r x ub → px p l e (px_rm 2 45) s m [.ref q, .ref sy].toArray below meth c 6 E A s.heap L (g) 0 0 Q 15 [(0, .ref q), (1, .ref sy), (2, .int (nI ub)), (3, .int (nI r)), (4, .int (nI x))] [] := by
        intro v
        induction v with
        | zero =>
          intro x ub g hx hI
          refine px_iload hC 4 rfl dX0_load_15 ?_
          refine px_aload_n hC 0 rfl dX0_load_17 ?_
          refine px_get (C := RX0) (T := TX0) (N := 10) hC (hqG _ _ _ _ hI) rfl kkX0_load_X0 4 (by decide) flX0_load_28 rfl dX0_load_18 ?_
          refine px_icmp_gt hC 67 dX0_load_21 (by decide) (fun _ => ?_) (fun q9 => (q9 (nI_lt (by omega) (by omega))).elim)
          refine px_iinc (v := nI (r + 1)) (lv' := [(0, .ref q), (1, .ref sy), (2, .int (nI ub)), (3, .int (nI (r + 1))), (4, .int (nI x))]) hC 3 [1, 2, 3, 0, 4] dX0_load_67 rfl (nI_1 r) (by decide) rfl ?_
          refine px_goto hC 4 dX0_load_70 (by decide) ?_
          refine px_lv (lv2 := [(0, .ref q), (1, .ref sy), (2, .int (nI ub)), (3, .int (nI (r + 1)))]) [0, 1, 2, 3] rfl ?_
          exact ihu (r + 1) ub g (by omega) (hcong g r x (r + 1) 0 ub hI (fun i j => by unfold ldn; omega))
        | succ v ihv =>
          intro x ub g hx hI
          obtain ⟨r0, hr0⟩ := hA (r * 11 + x) (by omega)
          have hr1 := hr0.fr (hI.2.2 _ (fun i j hd he => by have h5 := hD2 _ _ (by omega) (hlt hd) he; have h6 := hd.2.1; have h7 := hd.2.2; omega))
          have hub := hI.1
          have hml := m32_lt (w r x)
          have hor : ub ||| m32 (w r x) < 2147483648 := Nat.or_lt_two_pow (n := 31) hub hml
          refine px_iload hC 4 rfl dX0_load_15 ?_
          refine px_aload_n hC 0 rfl dX0_load_17 ?_
          refine px_get (C := RX0) (T := TX0) (N := 10) hC (hqG _ _ _ _ hI) rfl kkX0_load_X0 4 (by decide) flX0_load_28 rfl dX0_load_18 ?_
          refine px_icmp_gt hC 67 dX0_load_21 (by decide) (fun q9 => absurd q9 (nI_nlt (by omega) (by omega))) (fun _ => ?_)
          refine px_aload_n hC 1 rfl dX0_load_24 ?_
          refine px_iload_n hC 3 rfl dX0_load_25 ?_
          refine px_aald (t0 := 3) hC (hsG _ _ _ _ hI) rfl rfl (by omega) (by first | decide | assumption | omega) (hra r (by omega)).1 dX0_load_26 ?_
          refine px_iload hC 4 rfl dX0_load_27 ?_
          refine px_iald hC (hrG _ _ _ _ r hI (by omega)) (by omega) (by first | decide | assumption | omega) dX0_load_29 ?_
          refine px_istore (lv' := [(0, .ref q), (1, .ref sy), (2, .int (nI ub)), (3, .int (nI r)), (4, .int (nI x)), (5, .int (w r x))]) hC [1, 2, 3, 4, 5, 0] dX0_load_30 (by decide) rfl ?_
          refine px_aload_n hC 0 rfl dX0_load_32 ?_
          refine px_iload_n hC 3 rfl dX0_load_33 ?_
          refine px_iload hC 4 rfl dX0_load_34 ?_
          refine px_callVr (C := RX0) (T := TX0) (N := 10) (st := []) (nn := 2) hC (c_cell l E L _ q r x (hqG _ _ _ _ hI) (hcG _ _ _ _ hI) (hD1 _ (by omega)) (by omega)) (hqG _ _ _ _ hI) rfl gX0_load_X0_cell rfl (by decide +kernel) (by decide) (Nat.le_of_ble_eq_true rfl) (by decide) rfl rfl dX0_load_36 (fun z1 f1 hz => ?_)
          obtain ⟨rfl, rfl⟩ := hz
          refine px_iload hC 5 rfl dX0_load_39 ?_
          refine px_callSv (st := []) (nn := 2) hC (c_setTo l E L _ (ad (r * 11 + x)) r0 (w r x) hr1) gX0_load_X1_setTo rfl (by decide +kernel) (by decide) (Nat.le_of_ble_eq_true rfl) (by decide) rfl rfl dX0_load_41 (fun f1 h2 => ?_)
          subst h2
          have hnew : ldI E L f (va_up f1 (ad (r * 11 + x)) (aJ E 21 (lw (sx (w r x))))) ad w n r (x + 1) (ub ||| m32 (w r x)) := by
            refine ⟨hor, fun i j hd => ?_, fun b hd => ?_⟩
            · by_cases q0 : i = r ∧ j = x
              · obtain ⟨rfl, rfl⟩ := q0
                exact ⟨⟨sx (w i j), hr1.self, sx_dg _, sx_sg _⟩, Nat.right_le_or⟩
              · have h5 : ldn n r x i j := by unfold ldn at hd ⊢; omega
                have h6 := hI.2.1 i j h5
                refine ⟨h6.1.fr (va_up_ne _ _ (fun h => q0 (by have := hD2 _ _ (hlt h5) (by omega) h; have := h5.2.1; omega))), Nat.le_trans h6.2 Nat.left_le_or⟩
            · rw [va_up_ne _ _ (hd r x (by unfold ldn; omega))]
              exact hI.2.2 b (fun i j h5 => hd i j (by unfold ldn at h5 ⊢; omega))
          refine px_iload_n hC 2 rfl dX0_load_44 ?_
          refine px_iload hC 5 rfl dX0_load_45 ?_
          by_cases hneg : 0 ≤ w r x
          · have hv : ¬ w r x < 0 := Int32.not_lt.mpr hneg
            refine px_if_ge hC 57 dX0_load_47 (by decide) (fun _ => ?_) (fun q9 => (q9 (hneg)).elim)
            refine px_iload hC 5 rfl dX0_load_57 ?_
            refine px_ior hC dX0_load_59 ?_
            refine px_ei (y := nI (ub ||| m32 (w r x))) ((congrArg (fun z => nI ub ||| z) (m32_pos hv)).trans (nI_or (by omega) (by omega))) ?_
            refine px_istore_n (lv' := [(0, .ref q), (1, .ref sy), (2, .int (nI (ub ||| m32 (w r x)))), (3, .int (nI r)), (4, .int (nI x)), (5, .int (w r x))]) hC [1, 2, 0, 3, 4, 5] dX0_load_60 (by decide) rfl ?_
            refine px_iinc (v := nI (x + 1)) (lv' := [(0, .ref q), (1, .ref sy), (2, .int (nI (ub ||| m32 (w r x)))), (3, .int (nI r)), (4, .int (nI (x + 1))), (5, .int (w r x))]) hC 4 [1, 2, 3, 4, 0, 5] dX0_load_61 rfl (nI_1 x) (by decide) rfl ?_
            refine px_goto hC 15 dX0_load_64 (by decide) ?_
            refine px_lv (lv2 := [(0, .ref q), (1, .ref sy), (2, .int (nI (ub ||| m32 (w r x)))), (3, .int (nI r)), (4, .int (nI (x + 1)))]) [0, 1, 2, 3, 4] rfl ?_
            exact ihv (x + 1) _ _ (by omega) hnew
          · have hv : w r x < 0 := Int32.not_le.mp hneg
            refine px_if_ge hC 57 dX0_load_47 (by decide) (fun q9 => absurd q9 (hneg)) (fun _ => ?_)
            refine px_iload hC 5 rfl dX0_load_50 ?_
            refine px_iconst (v := (-1)) hC (by decide) dX0_load_52 ?_
            refine px_ixor hC dX0_load_53 ?_
            refine px_goto hC 59 dX0_load_54 (by decide) ?_
            refine px_ior hC dX0_load_59 ?_
            refine px_ei (y := nI (ub ||| m32 (w r x))) (by rw [m32_neg hv, nI_or (by omega) (by omega)]) ?_
            refine px_istore_n (lv' := [(0, .ref q), (1, .ref sy), (2, .int (nI (ub ||| m32 (w r x)))), (3, .int (nI r)), (4, .int (nI x)), (5, .int (w r x))]) hC [1, 2, 0, 3, 4, 5] dX0_load_60 (by decide) rfl ?_
            refine px_iinc (v := nI (x + 1)) (lv' := [(0, .ref q), (1, .ref sy), (2, .int (nI (ub ||| m32 (w r x)))), (3, .int (nI r)), (4, .int (nI (x + 1))), (5, .int (w r x))]) hC 4 [1, 2, 3, 4, 0, 5] dX0_load_61 rfl (nI_1 x) (by decide) rfl ?_
            refine px_goto hC 15 dX0_load_64 (by decide) ?_
            refine px_lv (lv2 := [(0, .ref q), (1, .ref sy), (2, .int (nI (ub ||| m32 (w r x)))), (3, .int (nI r)), (4, .int (nI (x + 1)))]) [0, 1, 2, 3, 4] rfl ?_
            exact ihv (x + 1) _ _ (by omega) hnew
      refine px_iload_n hC 3 rfl dX0_load_4 ?_
      refine px_aload_n hC 0 rfl dX0_load_5 ?_
      refine px_get (C := RX0) (T := TX0) (N := 10) hC (hqG _ _ _ _ hI) rfl kkX0_load_X0 4 (by decide) flX0_load_28 rfl dX0_load_6 ?_
      refine px_icmp_ge hC 73 dX0_load_9 (by decide) (fun q9 => absurd q9 (nI_ge (by omega) (by omega))) (fun _ => ?_)
      refine px_iconst (v := nI 0) hC (by decide) dX0_load_12 ?_
      refine px_istore (lv' := [(0, .ref q), (1, .ref sy), (2, .int (nI ub)), (3, .int (nI r)), (4, .int (nI 0))]) hC [1, 2, 3, 4, 0] dX0_load_13 (by decide) rfl ?_
      exact inner (n + 1) 0 ub g (by omega) hI
  refine px_iconst (v := nI 0) hC (by decide) dX0_load_0 ?_
  refine px_istore_n (lv' := [(0, .ref q), (1, .ref sy), (2, .int (nI 0))]) hC [1, 2, 0] dX0_load_1 (by decide) rfl ?_
  refine px_iconst (v := nI 0) hC (by decide) dX0_load_2 ?_
  refine px_istore_n (lv' := [(0, .ref q), (1, .ref sy), (2, .int (nI 0)), (3, .int (nI 0))]) hC [1, 2, 3, 0] dX0_load_3 (by decide) rfl ?_
  exact outer n 0 0 f (by omega) ⟨by decide, fun i j hd => absurd hd (by unfold ldn; omega), fun b _ => rfl⟩
