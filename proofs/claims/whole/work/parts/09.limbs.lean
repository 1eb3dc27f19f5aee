def sx (v : Int32) : Nat → Nat := un (fun _ => if v < 0 then 4294967295 else 0) 0 v.toBitVec.toNat
theorem sx_l (v : Int32) : v.toInt64 &&& lN 4294967295 = lN v.toBitVec.toNat := by
  have h : v.toInt64.toBitVec = v.toBitVec.signExtend 64 := Int32.toBitVec_toInt64 v
  apply wb_inj
  rw [Int64.toBitVec_and, h, wb_tb, wb_tb]
  apply BitVec.eq_of_getLsbD_eq
  intro i hi
  rw [BitVec.getLsbD_and, BitVec.getLsbD_ofNat, BitVec.getLsbD_ofNat, BitVec.getLsbD_signExtend, show (4294967295 : Nat) = 2 ^ 32 - 1 from rfl, Nat.testBit_two_pow_sub_one]
  by_cases q : i < 32
  · simp [hi, q, BitVec.getLsbD]
  · simp [hi, q]
    exact Nat.testBit_lt_two_pow (Nat.lt_of_lt_of_le v.toBitVec.isLt (Nat.pow_le_pow_right (by decide) (by omega)))
def wx (x : Nat → Nat) (w : Nat) : Nat → Nat := fun i => if i < w then x i else if 2147483648 ≤ x (w - 1) then 4294967295 else 0
theorem iv_mul {o v M N W : Nat} (hW : 0 < W) (hM : M * M * N = W) (h : ∃ k : Int, (o : Int) * v = 1 + k * M) : ∃ k : Int, (o : Int) * ((v * (2 + W - o * v % W) % W : Nat) : Int) = 1 + k * ((M * M : Nat) : Int) := by
  have e : ∃ k : Int, ((v * (2 + W - o * v % W) % W : Nat) : Int) = v * (2 - o * v) + k * ((M : Int) * M) := by
    have hz : o * v % W < W := Nat.mod_lt _ hW
    have e1 : ((o * v % W : Nat) : Int) = o * v - W * ((o * v / W : Nat) : Int) := by
      have h2 : ((W * (o * v / W) + o * v % W : Nat) : Int) = ((o * v : Nat) : Int) := by rw [Nat.div_add_mod]
      rw [Int.natCast_add, Int.natCast_mul, Int.natCast_mul] at h2
      omega
    have e2 : ((2 + W - o * v % W : Nat) : Int) = 2 - o * v + W * (1 + ((o * v / W : Nat) : Int)) := by
      have h3 : ((2 + W - o * v % W : Nat) : Int) = 2 + W - ((o * v % W : Nat) : Int) := by omega
      rw [h3, e1]
      grind
    generalize 2 + W - o * v % W = T at e2 ⊢
    generalize ((o * v / W : Nat) : Int) = q1 at e2
    have h5 : ((W * (v * T / W) + v * T % W : Nat) : Int) = ((v * T : Nat) : Int) := by rw [Nat.div_add_mod]
    have hM2 : ((M : Int) * M) * N = W := by exact_mod_cast hM
    refine ⟨((N : Int) * (v * (1 + q1)) - N * ((v * T / W : Nat) : Int)), ?_⟩
    generalize v * T / W = q2 at h5 ⊢
    generalize v * T % W = r2 at h5 ⊢
    rw [Int.natCast_add, Int.natCast_mul, Int.natCast_mul, e2, ← hM2] at h5
    grind
  have := iv_step h e
  rw [Int.natCast_mul M M]
  exact this

theorem c_inv (l : Launch) (E : px_E) (L : List Nat) (f : Nat → va_E) (o : Nat) (ho : o % 2 = 1) (hb : o < 4294967296) : px_M l yX1_inverse wsX1_inverse (px_rm 0 0) E L f [.long (lN o)] (px_l L (fun z f' => f' = f ∧ ∃ u, z = lN u ∧ u < 4294967296 ∧ u * o % 4294967296 = 1)) := by
  refine px_M.of (cc := cX1_inverse) (maxL := 5) (ret := (some .long)) (lv := [(0, .long (lN o))]) (by decide) rfl (Nat.le_of_ble_eq_true rfl) rfl ?_
  intro p e s m below meth c A hC hnm
  obtain ⟨Q, hQ⟩ : ∃ Q, Q = MQ below (px_Q E (px_l L (fun z f' => f' = f ∧ ∃ u, z = lN u ∧ u < 4294967296 ∧ u * o % 4294967296 = 1)) A) [.long (lN o)].toArray s (px_rm 0 0).cells (px_rm 0 0).slots A := ⟨_, rfl⟩
  rw [← hQ]
  have loop : ∀ (d i v : Nat), i + d = 4 → v < 2 ^ 64 → (∃ k : Int, (o : Int) * v = 1 + k * ((2 ^ (3 * 2 ^ i) : Nat) : Int)) → px p l e (px_rm 0 0) s m [.long (lN o)].toArray below meth c 5 E A s.heap L (f) 0 0 Q 5 [(0, .long (lN o)), (2, .long (lN v)), (4, .int (nI i))] [] := by
    intro d
    induction d with
    | zero =>
      intro i v hi hv hk
      have e : i = 4 := by omega
      subst e
      refine px_iload hC 2 rfl dX1_inverse_5 ?_
      refine px_iconst (v := nI 4) hC (by decide) dX1_inverse_7 ?_
      refine px_icmp_ge hC 27 dX1_inverse_8 (by decide) (fun _ => ?_) (fun q9 => (q9 (nI_le (Nat.le_refl 4) (by decide))).elim)
      refine px_lload_n hC 1 rfl dX1_inverse_27 ?_
      refine px_ldc2 (v := 4294967295) hC dX1_inverse_28 (by decide +kernel) ?_
      refine px_el (y := lN 4294967295) (by decide) ?_
      refine px_land hC dX1_inverse_31 ?_
      refine px_el (y := lN (v % 4294967296)) (wb_mask (k := 32) hv (by decide)) ?_
      obtain ⟨k, hk⟩ := hk
      have e1 : o * v % 4294967296 = 1 := by
        have h2 : ((o * v : Nat) : Int) = 1 + k * 281474976710656 := by push_cast; exact hk
        omega
      subst hQ
      exact px_lret hC rfl (⟨_, rfl, rfl, rfl, v % 4294967296, rfl, Nat.mod_lt _ (by decide), by rw [Nat.mod_mul_mod, Nat.mul_comm]; exact e1⟩) dX1_inverse_32
    | succ d ih =>
      intro i v hi hv hk
      refine px_iload hC 2 rfl dX1_inverse_5 ?_
      refine px_iconst (v := nI 4) hC (by decide) dX1_inverse_7 ?_
      refine px_icmp_ge hC 27 dX1_inverse_8 (by decide) (fun q9 => ((nI_ge (by omega) (by decide)) q9).elim) (fun _ => ?_)
      refine px_lload_n hC 1 rfl dX1_inverse_11 ?_
      refine px_ldc2 (v := 2) hC dX1_inverse_12 (by decide +kernel) ?_
      refine px_el (y := lN 2) (by decide) ?_
      refine px_lload_n hC 0 rfl dX1_inverse_15 ?_
      refine px_lload_n hC 1 rfl dX1_inverse_16 ?_
      refine px_lmul hC dX1_inverse_17 ?_
      refine px_lsub hC dX1_inverse_18 ?_
      refine px_lmul hC dX1_inverse_19 ?_
      refine px_el (y := lN (v * (2 + 2 ^ 64 - o * v % 2 ^ 64) % 2 ^ 64)) (by rw [lN_mul, wb_mod (o * v), lz_sub (by have := Nat.mod_lt (o * v) (show 0 < 2 ^ 64 by decide); omega), lN_mul, wb_mod]) ?_
      refine px_lstore_n (lv' := [(0, .long (lN o)), (2, .long (lN (v * (2 + 2 ^ 64 - o * v % 2 ^ 64) % 2 ^ 64))), (4, .int (nI i))]) hC [1, 0, 2] dX1_inverse_20 (by decide) rfl ?_
      refine px_iinc (v := nI (i + 1)) (lv' := [(0, .long (lN o)), (2, .long (lN (v * (2 + 2 ^ 64 - o * v % 2 ^ 64) % 2 ^ 64))), (4, .int (nI (i + 1)))]) hC 2 [1, 2, 0] dX1_inverse_21 rfl (nI_1 i) (by decide) rfl ?_
      refine px_goto hC 5 dX1_inverse_24 (by decide) ?_
      refine ih (i + 1) _ (by omega) (Nat.mod_lt _ (by decide)) ?_
      have hM : 2 ^ (3 * 2 ^ i) * 2 ^ (3 * 2 ^ i) * 2 ^ (64 - 3 * 2 ^ (i + 1)) = 2 ^ 64 := by
        rcases (show i = 0 ∨ i = 1 ∨ i = 2 ∨ i = 3 by omega) with rfl | rfl | rfl | rfl <;> decide
      have h2 := iv_mul (by decide) hM hk
      rw [show 2 ^ (3 * 2 ^ (i + 1)) = 2 ^ (3 * 2 ^ i) * 2 ^ (3 * 2 ^ i) from by rw [← Nat.pow_add]; congr 1; rw [Nat.pow_succ]; omega]
      exact h2
  refine px_lload_n hC 0 rfl dX1_inverse_0 ?_
  refine px_lstore_n (lv' := [(0, .long (lN o)), (2, .long (lN o))]) hC [1, 0] dX1_inverse_1 (by decide) rfl ?_
  refine px_iconst (v := nI 0) hC (by decide) dX1_inverse_2 ?_
  refine px_istore (lv' := [(0, .long (lN o)), (2, .long (lN o)), (4, .int (nI 0))]) hC [1, 2, 0] dX1_inverse_3 (by decide) rfl ?_
  exact loop 4 0 o (by omega) (by omega) (iv_8 ho)
theorem sp_step {Y' Y Lv R li g Rl r T b k W : Nat} (h0 : Y + Lv * R = T + k * W) (hs : Y' + g * Rl = Y + b * W) (hR : g * R = g * Rl + li * r * W) : Y' + (Lv + g) * R = T + (k + b + li * r) * W := by
  have e : (Lv + g) * R = Lv * R + g * R := Nat.add_mul _ _ _
  have e2 : (k + b + li * r) * W = k * W + b * W + li * r * W := by rw [Nat.add_mul, Nat.add_mul]
  omega
theorem sp_R {B : Nat} (x : Nat → Nat) {w i g : Nat} (hi : i ≤ w) : g * B ^ i * vl B x w = g * B ^ i * vl B x (w - i) + g * vl B (fun j => x (w - i + j)) i * B ^ w := by
  have e1 : vl B x w = vl B x (w - i) + B ^ (w - i) * vl B (fun j => x (w - i + j)) i := by rw [← vl_a, show w - i + i = w by omega]
  have e2 : B ^ i * B ^ (w - i) = B ^ w := by rw [← Nat.pow_add]; congr 1; omega
  rw [e1, ← e2]
  grind
theorem c_subP (l : Launch) (E : px_E) (L : List Nat) (f : Nat → va_E) (t a b w : Nat) (tx ax bx : Nat → Nat) (hf : px_at L f t (aJ E 21 (lw tx))) (hg : px_at L f a (aJ E 21 (lw ax))) (hh : px_at L f b (aJ E 21 (lw bx))) (hn1 : a ≠ t) (hn2 : b ≠ t) (hw : w ≤ 21) (ht : dg tx) (ha : dg ax) (hb : dg bx) : px_M l yX1_subtractProduct wsX1_subtractProduct (px_rm 1 32) E L f [.ref t, .ref a, .ref b, .int (nI w)] (px_v L (fun f' => ∃ y, dg y ∧ (∃ k, vl 4294967296 y w + vl 4294967296 ax w * vl 4294967296 bx w = vl 4294967296 tx w + k * 4294967296 ^ w) ∧ f' = va_up f t (aJ E 21 (lw y)))) := by
  refine px_M.of (cc := cX1_subtractProduct) (maxL := 5) (ret := none) (lv := [(0, .ref t), (1, .ref a), (2, .ref b), (3, .int (nI w))]) (by decide) rfl (Nat.le_of_ble_eq_true rfl) rfl ?_
  intro p e s m below meth c A hC hnm
  obtain ⟨Q, hQ⟩ : ∃ Q, Q = MQ below (px_Q E (px_v L (fun f' => ∃ y, dg y ∧ (∃ k, vl 4294967296 y w + vl 4294967296 ax w * vl 4294967296 bx w = vl 4294967296 tx w + k * 4294967296 ^ w) ∧ f' = va_up f t (aJ E 21 (lw y)))) A) [.ref t, .ref a, .ref b, .int (nI w)].toArray s (px_rm 1 32).cells (px_rm 1 32).slots A := ⟨_, rfl⟩
  rw [← hQ]
  have loop : ∀ (d i : Nat) (y : Nat → Nat), i + d = w → dg y → (∃ k, vl 4294967296 y w + vl 4294967296 ax i * vl 4294967296 bx w = vl 4294967296 tx w + k * 4294967296 ^ w) → px p l e (px_rm 1 32) s m [.ref t, .ref a, .ref b, .int (nI w)].toArray below meth c 5 E A s.heap L (va_up f t (aJ E 21 (lw y))) 0 0 Q 3 [(0, .ref t), (1, .ref a), (2, .ref b), (3, .int (nI w)), (4, .int (nI i))] [] := by
    intro d
    induction d with
    | zero =>
      intro i y hi hy hk
      have e : i = w := by omega
      subst e
      refine px_iload hC 4 rfl dX1_subtractProduct_3 ?_
      refine px_iload_n hC 3 rfl dX1_subtractProduct_5 ?_
      refine px_icmp_ge hC 36 dX1_subtractProduct_6 (by decide) (fun _ => ?_) (fun q9 => (q9 (nI_le (Nat.le_refl i) (by omega))).elim)
      subst hQ
      exact px_vret hC rfl (⟨rfl, rfl, y, hy, hk, rfl⟩) dX1_subtractProduct_36
    | succ d ih =>
      intro i y hi hy hk
      have hai := ha i (by omega)
      refine px_iload hC 4 rfl dX1_subtractProduct_3 ?_
      refine px_iload_n hC 3 rfl dX1_subtractProduct_5 ?_
      refine px_icmp_ge hC 36 dX1_subtractProduct_6 (by decide) (fun q9 => ((nI_ge (by omega) (by omega)) q9).elim) (fun _ => ?_)
      refine px_aload_n hC 1 rfl dX1_subtractProduct_9 ?_
      refine px_iload hC 4 rfl dX1_subtractProduct_10 ?_
      refine px_lald hC (hg.up hn1) (by omega) (by first | decide | assumption | omega) dX1_subtractProduct_12 ?_
      refine px_lconst (v := lN 0) hC (by decide) dX1_subtractProduct_13 ?_
      refine px_lcmp hC dX1_subtractProduct_14 ?_
      by_cases h : ax i = 0
      · refine px_if_eq hC 30 dX1_subtractProduct_15 (by decide) (fun _ => ?_) (fun q9 => (q9 ((lz_c0 (by omega) (by omega)).mpr h)).elim)
        refine px_iinc (v := nI (i + 1)) (lv' := [(0, .ref t), (1, .ref a), (2, .ref b), (3, .int (nI w)), (4, .int (nI (i + 1)))]) hC 4 [1, 2, 3, 4, 0] dX1_subtractProduct_30 rfl (nI_1 i) (by decide) rfl ?_
        refine px_goto hC 3 dX1_subtractProduct_33 (by decide) ?_
        exact ih (i + 1) y (by omega) hy (by
          obtain ⟨k, hk⟩ := hk
          exact ⟨k, by show _ + (vl 4294967296 ax i + ax i * 4294967296 ^ i) * _ = _; rw [h, Nat.zero_mul, Nat.add_zero]; exact hk⟩)
      · refine px_if_eq hC 30 dX1_subtractProduct_15 (by decide) (fun q9 => ((fun q => h ((lz_c0 (by omega) (by omega)).mp q)) q9).elim) (fun _ => ?_)
        refine px_aload_n hC 0 rfl dX1_subtractProduct_18 ?_
        refine px_iload hC 4 rfl dX1_subtractProduct_19 ?_
        refine px_aload_n hC 1 rfl dX1_subtractProduct_21 ?_
        refine px_iload hC 4 rfl dX1_subtractProduct_22 ?_
        refine px_lald hC (hg.up hn1) (by omega) (by first | decide | assumption | omega) dX1_subtractProduct_24 ?_
        refine px_aload_n hC 2 rfl dX1_subtractProduct_25 ?_
        refine px_iload_n hC 3 rfl dX1_subtractProduct_26 ?_
        refine px_callSv (st := []) (nn := 5) hC (c_subS l E L _ t b i (ax i) w y bx hf.self (hh.up hn2) hn2 (by omega) hw hai hy hb) gX1_subtractProduct_X1_subtractScaled rfl (by decide +kernel) (by decide) (Nat.le_of_ble_eq_true rfl) (by decide) rfl rfl dX1_subtractProduct_27 (fun f1 h1 => ?_)
        obtain ⟨y1, hy1, hk1, ⟨k1, he1⟩, rfl⟩ := h1
        rw [px_uu]
        refine px_iinc (v := nI (i + 1)) (lv' := [(0, .ref t), (1, .ref a), (2, .ref b), (3, .int (nI w)), (4, .int (nI (i + 1)))]) hC 4 [1, 2, 3, 4, 0] dX1_subtractProduct_30 rfl (nI_1 i) (by decide) rfl ?_
        refine px_goto hC 3 dX1_subtractProduct_33 (by decide) ?_
        refine ih (i + 1) y1 (by omega) hy1 ?_
        obtain ⟨k, hk⟩ := hk
        exact ⟨_, sp_step hk he1 (sp_R bx (by omega))⟩
  refine px_iconst (v := nI 0) hC (by decide) dX1_subtractProduct_0 ?_
  refine px_istore (lv' := [(0, .ref t), (1, .ref a), (2, .ref b), (3, .int (nI w)), (4, .int (nI 0))]) hC [1, 2, 3, 4, 0] dX1_subtractProduct_1 (by decide) rfl ?_
  have h0 := loop w 0 tx (by omega) ht ⟨0, by simp [vl]⟩
  rw [px_us hf.2] at h0
  exact h0
theorem c_divE (l : Launch) (E : px_E) (L : List Nat) (f : Nat → va_E) (t b iv w : Nat) (tx bx : Nat → Nat) (hf : px_at L f t (aJ E 21 (lw tx))) (hg : px_at L f b (aJ E 21 (lw bx))) (hne : b ≠ t) (hw : w ≤ 21) (hiv : iv < 4294967296) (h1 : iv * bx 0 % 4294967296 = 1) (ht : dg tx) (hb : dg bx) : px_M l yX1_divideEvenly wsX1_divideEvenly (px_rm 1 32) E L f [.ref t, .ref b, .long (lN iv), .int (nI w)] (px_v L (fun f' => ∃ y, dg y ∧ (∀ i, w ≤ i → y i = tx i) ∧ (∃ k : Int, (vl 4294967296 tx w : Int) = vl 4294967296 y w * vl 4294967296 bx w + k * ((4294967296 ^ w : Nat) : Int)) ∧ f' = va_up f t (aJ E 21 (lw y)))) := by
  refine px_M.of (cc := cX1_divideEvenly) (maxL := 8) (ret := none) (lv := [(0, .ref t), (1, .ref b), (2, .long (lN iv)), (4, .int (nI w))]) (by decide) rfl (Nat.le_of_ble_eq_true rfl) rfl ?_
  intro p e s m below meth c A hC hnm
  obtain ⟨Q, hQ⟩ : ∃ Q, Q = MQ below (px_Q E (px_v L (fun f' => ∃ y, dg y ∧ (∀ i, w ≤ i → y i = tx i) ∧ (∃ k : Int, (vl 4294967296 tx w : Int) = vl 4294967296 y w * vl 4294967296 bx w + k * ((4294967296 ^ w : Nat) : Int)) ∧ f' = va_up f t (aJ E 21 (lw y)))) A) [.ref t, .ref b, .long (lN iv), .int (nI w)].toArray s (px_rm 1 32).cells (px_rm 1 32).slots A := ⟨_, rfl⟩
  rw [← hQ]
  have loop : ∀ (d i : Nat) (y : Nat → Nat), i + d = w → dg y → (∀ j, w ≤ j → y j = tx j) → (∃ k : Int, (vl 4294967296 tx w : Int) = vl 4294967296 y i * vl 4294967296 bx w + ((vl 4294967296 y w : Int) - vl 4294967296 y i) + k * ((4294967296 ^ w : Nat) : Int)) → px p l e (px_rm 1 32) s m [.ref t, .ref b, .long (lN iv), .int (nI w)].toArray below meth c 8 E A s.heap L (va_up f t (aJ E 21 (lw y))) 0 0 Q 3 [(0, .ref t), (1, .ref b), (2, .long (lN iv)), (4, .int (nI w)), (5, .int (nI i))] [] := by
    intro d
    induction d with
    | zero =>
      intro i y hi hy hj hk
      have e : i = w := by omega
      subst e
      refine px_iload hC 4 rfl dX1_divideEvenly_3 ?_
      refine px_iload hC 3 rfl dX1_divideEvenly_5 ?_
      refine px_icmp_ge hC 45 dX1_divideEvenly_7 (by decide) (fun _ => ?_) (fun q9 => (q9 (nI_le (Nat.le_refl i) (by omega))).elim)
      subst hQ
      exact px_vret hC rfl (⟨rfl, rfl, y, hy, hj, by obtain ⟨k, hk⟩ := hk; exact ⟨k, by rw [hk]; omega⟩, rfl⟩) dX1_divideEvenly_45
    | succ d ih =>
      intro i y hi hy hj hk
      have hyi := hy i (by omega)
      have hpm := ss_part hyi hiv (show 0 < 4294967296 by decide)
      refine px_iload hC 4 rfl dX1_divideEvenly_3 ?_
      refine px_iload hC 3 rfl dX1_divideEvenly_5 ?_
      refine px_icmp_ge hC 45 dX1_divideEvenly_7 (by decide) (fun q9 => ((nI_ge (by omega) (by omega)) q9).elim) (fun _ => ?_)
      refine px_aload_n hC 0 rfl dX1_divideEvenly_10 ?_
      refine px_iload hC 4 rfl dX1_divideEvenly_11 ?_
      refine px_lald hC hf.self (by omega) (by first | decide | assumption | omega) dX1_divideEvenly_13 ?_
      refine px_lload_n hC 2 rfl dX1_divideEvenly_14 ?_
      refine px_lmul hC dX1_divideEvenly_15 ?_
      refine px_ldc2 (v := 4294967295) hC dX1_divideEvenly_16 (by decide +kernel) ?_
      refine px_el (y := lN 4294967295) (by decide) ?_
      refine px_land hC dX1_divideEvenly_19 ?_
      refine px_el (y := lN (y i * iv % 4294967296)) (by show lN (y i) * lN iv &&& _ = _; rw [lN_mul]; exact wb_mask (k := 32) (by omega) (by decide)) ?_
      have hdl : y i * iv % 4294967296 < 4294967296 := Nat.mod_lt _ (by decide)
      have hdd : y i * iv % 4294967296 * bx 0 % 4294967296 = y i := by
        rw [Nat.mod_mul_mod, Nat.mul_assoc, Nat.mul_mod, h1, Nat.mul_one, Nat.mod_mod, Nat.mod_eq_of_lt hyi]
      generalize y i * iv % 4294967296 = dgt at hdl hdd ⊢
      refine px_lstore (lv' := [(0, .ref t), (1, .ref b), (2, .long (lN iv)), (4, .int (nI w)), (5, .int (nI i)), (6, .long (lN (dgt)))]) hC [1, 2, 3, 4, 5, 0] dX1_divideEvenly_20 (by decide) rfl ?_
      refine px_aload_n hC 0 rfl dX1_divideEvenly_22 ?_
      refine px_iload hC 4 rfl dX1_divideEvenly_23 ?_
      refine px_lload hC 5 rfl dX1_divideEvenly_25 ?_
      refine px_aload_n hC 1 rfl dX1_divideEvenly_27 ?_
      refine px_iload hC 3 rfl dX1_divideEvenly_28 ?_
      refine px_callSv (st := []) (nn := 5) hC (c_subS l E L _ t b i dgt w y bx hf.self (hg.up hne) hne (by omega) hw hdl hy hb) gX1_divideEvenly_X1_subtractScaled rfl (by decide +kernel) (by decide) (Nat.le_of_ble_eq_true rfl) (by decide) rfl rfl dX1_divideEvenly_30 (fun f1 h2 => ?_)
      obtain ⟨y1, hy1, hk1, ⟨k1, he1⟩, rfl⟩ := h2
      rw [px_uu]
      refine px_aload_n hC 0 rfl dX1_divideEvenly_33 ?_
      refine px_iload hC 4 rfl dX1_divideEvenly_34 ?_
      refine px_lload hC 5 rfl dX1_divideEvenly_36 ?_
      refine px_last hC hf.self (by omega) (by first | decide | assumption | omega) dX1_divideEvenly_38 ?_
      rw [px_uu, lw_up]
      refine px_iinc (v := nI (i + 1)) (lv' := [(0, .ref t), (1, .ref b), (2, .long (lN iv)), (4, .int (nI w)), (5, .int (nI (i + 1))), (6, .long (lN (dgt)))]) hC 4 [1, 2, 3, 4, 0, 5] dX1_divideEvenly_39 rfl (nI_1 i) (by decide) rfl ?_
      refine px_goto hC 3 dX1_divideEvenly_42 (by decide) ?_
      refine px_lv (lv2 := [(0, .ref t), (1, .ref b), (2, .long (lN iv)), (4, .int (nI w)), (5, .int (nI (i + 1)))]) [0, 1, 2, 3, 4] rfl ?_
      have hz : y1 i = 0 := dv_zero (g := dgt) (d := bx) (e := dgt * bx 0 / 4294967296) (by omega) (by decide) (fun j hj => hk1 j (Or.inl hj)) (hy1 i (by omega)) he1 (by rw [← hdd]; omega)
      have hu := vl_u (B := 4294967296) (x := y1) (n := w) (j := i) (z := dgt) (by omega)
      rw [hz, Nat.zero_mul, Nat.add_zero] at hu
      have hu2 : vl 4294967296 (un y1 i dgt) (i + 1) = vl 4294967296 y i + dgt * 4294967296 ^ i := by
        show vl 4294967296 (un y1 i dgt) i + un y1 i dgt i * 4294967296 ^ i = _
        rw [vl_ug (Nat.le_refl i), un_s, vl_c (fun j hj => hk1 j (Or.inl hj))]
      refine ih (i + 1) (un y1 i dgt) (by omega) (dg_un hy1 hdl) (fun j hj2 => ?_) ?_
      · rw [un_n _ _ (by omega), hk1 j (Or.inr hj2)]; exact hj j hj2
      · obtain ⟨k, hk⟩ := hk
        have hR := sp_R (B := 4294967296) bx (w := w) (i := i) (g := dgt) (by omega)
        rw [hu, hu2]
        have q1 : ((vl 4294967296 y1 w : Nat) : Int) + ((dgt * 4294967296 ^ i : Nat) : Int) * ((vl 4294967296 bx (w - i) : Nat) : Int) = ((vl 4294967296 y w : Nat) : Int) + (k1 : Int) * ((4294967296 ^ w : Nat) : Int) := by exact_mod_cast he1
        have q2 : ((dgt * 4294967296 ^ i : Nat) : Int) * ((vl 4294967296 bx w : Nat) : Int) = ((dgt * 4294967296 ^ i : Nat) : Int) * ((vl 4294967296 bx (w - i) : Nat) : Int) + (dgt : Int) * ((vl 4294967296 (fun j => bx (w - i + j)) i : Nat) : Int) * ((4294967296 ^ w : Nat) : Int) := by exact_mod_cast hR
        have q3 := dv_step hk q1 q2
        rw [← Int.natCast_add, ← Int.natCast_add] at q3
        exact ⟨_, q3⟩
  refine px_iconst (v := nI 0) hC (by decide) dX1_divideEvenly_0 ?_
  refine px_istore (lv' := [(0, .ref t), (1, .ref b), (2, .long (lN iv)), (4, .int (nI w)), (5, .int (nI 0))]) hC [1, 2, 3, 4, 0] dX1_divideEvenly_1 (by decide) rfl ?_
  have h0 := loop w 0 tx (by omega) ht (fun _ _ => rfl) ⟨0, by simp [vl]⟩
  rw [px_us hf.2] at h0
  exact h0
