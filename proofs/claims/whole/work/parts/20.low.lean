def lD (tp bt ot ob : Nat) : Prop := tp ≠ bt ∧ tp ≠ ot ∧ tp ≠ ob ∧ bt ≠ ot ∧ bt ≠ ob ∧ ot ≠ ob
/-- dividing by an odd factor, limb by limb, is dividing -/
theorem dv_exact {x y b : Nat → Nat} {w g a : Nat} (dx : dg x) (dy : dg y) (hw : w ≤ 21) (h : ∃ k : Int, (vl 4294967296 x w : Int) = vl 4294967296 y w * vl 4294967296 b w + k * ((4294967296 ^ w : Nat) : Int)) (hb : vl 4294967296 b w = g) (hg : g % 2 = 1) (hx : vl 4294967296 x w = g * a) : vl 4294967296 y w = a := by
  have lx := vl_lt (B := 4294967296) (x := x) (n := w) (fun i hi => dx i (by omega))
  have ly := vl_lt (B := 4294967296) (x := y) (n := w) (fun i hi => dy i (by omega))
  have la : a < 4294967296 ^ w := by
    have : 1 * a ≤ g * a := Nat.mul_le_mul_right _ (by omega)
    omega
  obtain ⟨k, h⟩ := h
  rw [hb, hx] at h
  have h1 : cg ((2 ^ (32 * w) : Nat) : Int) ((vl 4294967296 y w : Int) * g) ((g : Int) * a) := by
    rw [← pow_BB]
    exact cg_s ⟨k, by rw [← h, Int.natCast_mul]⟩
  obtain ⟨j, hj⟩ := cg_cancel (by omega) h1
  rw [← pow_BB] at hj
  rcases (show j = 0 ∨ 1 ≤ j ∨ j ≤ -1 by omega) with q | q | q
  · subst q; omega
  · have h5 : ((4294967296 ^ w : Nat) : Int) * 1 ≤ ((4294967296 ^ w : Nat) : Int) * j := Int.mul_le_mul_of_nonneg_left q (by omega)
    rw [Int.mul_comm _ j] at h5
    omega
  · have h5 : ((4294967296 ^ w : Nat) : Int) * j ≤ ((4294967296 ^ w : Nat) : Int) * (-1) := Int.mul_le_mul_of_nonneg_left q (by omega)
    rw [Int.mul_comm _ j] at h5
    omega
theorem gcd_parts {a b t1 o1 t2 o2 : Nat} (h1 : a = 2 ^ t1 * (2 * o1 + 1)) (h2 : b = 2 ^ t2 * (2 * o2 + 1)) (h : a % 2 = 1 ∨ b % 2 = 1) : Nat.gcd (2 * o1 + 1) (2 * o2 + 1) = Nat.gcd a b := by
  have z : ∀ {v t o : Nat}, v = 2 ^ t * (2 * o + 1) → v % 2 = 1 → v = 2 * o + 1 := fun {v t o} e q => by
    cases t with
    | zero => rw [e, Nat.pow_zero, Nat.one_mul]
    | succ t =>
      have h3 : v = 2 * (2 ^ t * (2 * o + 1)) := by rw [e, Nat.pow_succ]; grind
      omega
  rcases h with q | q
  · have e := z h1 q
    rw [h2, Nat.gcd_comm a, gcd_odd2 q, e, Nat.gcd_comm]
  · have e := z h2 q
    rw [h1, gcd_odd2 q, e]
theorem sg_neg {x : Nat → Nat} (hx : dg x) : 2147483648 ≤ x 20 ↔ sg x < 0 := by
  have h1 := vl_lt hx
  unfold sg
  constructor
  · intro h; rw [if_pos h]; omega
  · intro h
    by_cases q : 2147483648 ≤ x 20
    · exact q
    · rw [if_neg q] at h; omega
theorem flX2_removeCommonOddFactor_9 : Cond.fieldLink RX2 9 "RowReduction$LowestTerms" "top" "[J" ∈ wsX2_removeCommonOddFactor := by decide +kernel
theorem kkX2_removeCommonOddFactor_X2 : ∀ w ∈ wsX20, w ∈ wsX2_removeCommonOddFactor := fun _ h => List.mem_cons_of_mem _ (List.mem_append_right _ h)
theorem flX2_removeCommonOddFactor_18 : Cond.fieldLink RX2 18 "RowReduction$LowestTerms" "oddTop" "[J" ∈ wsX2_removeCommonOddFactor := by decide +kernel
theorem flX2_removeCommonOddFactor_15 : Cond.fieldLink RX2 15 "RowReduction$LowestTerms" "bottom" "[J" ∈ wsX2_removeCommonOddFactor := by decide +kernel
theorem flX2_removeCommonOddFactor_21 : Cond.fieldLink RX2 21 "RowReduction$LowestTerms" "oddBottom" "[J" ∈ wsX2_removeCommonOddFactor := by decide +kernel
theorem flX2_find_24 : Cond.fieldLink RX2 24 "RowReduction$LowestTerms" "numerator" "J" ∈ wsX2_find := by decide +kernel
theorem kkX2_find_X2 : ∀ w ∈ wsX20, w ∈ wsX2_find := fun _ h => List.mem_cons_of_mem _ (List.mem_append_right _ h)
theorem flX2_find_28 : Cond.fieldLink RX2 28 "RowReduction$LowestTerms" "denominator" "J" ∈ wsX2_find := by decide +kernel
theorem flX2_find_9 : Cond.fieldLink RX2 9 "RowReduction$LowestTerms" "top" "[J" ∈ wsX2_find := by decide +kernel
theorem flX2_find_15 : Cond.fieldLink RX2 15 "RowReduction$LowestTerms" "bottom" "[J" ∈ wsX2_find := by decide +kernel
theorem c_rmCO (l : Launch) (E : px_E) (L : List Nat) (f : Nat → va_E) (lt w : Nat) {tp bt ot ob : Nat} {nu de : Int64} {x y : Nat → Nat} {r1 r2 : Nat → Int64} (hq : px_at L f lt (.inr (1, lF tp bt ot ob nu de))) (hD : lD tp bt ot ob) (ht : px_at L f tp (aJ E 21 (lw x))) (hb : px_at L f bt (aJ E 21 (lw y))) (hot : px_at L f ot (aJ E 21 r1)) (hob : px_at L f ob (aJ E 21 r2)) (dx : dg x) (dy : dg y) (h1 : 1 ≤ w) (hw : w ≤ 21) (zx : hz x w) (zy : hz y w) (nx : vl 4294967296 x 21 ≠ 0) (ny : vl 4294967296 y 21 ≠ 0) (hodd : vl 4294967296 x 21 % 2 = 1 ∨ vl 4294967296 y 21 % 2 = 1) : px_M l yX2_removeCommonOddFactor wsX2_removeCommonOddFactor (px_rm 4 99) E L f [.ref lt, .int (nI w)] (px_v L (fun f' => ∃ x' y', dg x' ∧ dg y' ∧ vl 4294967296 x' 21 = vl 4294967296 x 21 / Nat.gcd (vl 4294967296 x 21) (vl 4294967296 y 21) ∧ vl 4294967296 y' 21 = vl 4294967296 y 21 / Nat.gcd (vl 4294967296 x 21) (vl 4294967296 y 21) ∧ px_at L f' tp (aJ E 21 (lw x')) ∧ px_at L f' bt (aJ E 21 (lw y')) ∧ (∃ r, px_at L f' ot (aJ E 21 r)) ∧ (∃ r, px_at L f' ob (aJ E 21 r)) ∧ ∀ b, b ≠ tp → b ≠ bt → b ≠ ot → b ≠ ob → f' b = f b)) := by
  refine px_M.of (cc := cX2_removeCommonOddFactor) (maxL := 5) (ret := none) (lv := [(0, .ref lt), (1, .int (nI w))]) (by decide) rfl (Nat.le_of_ble_eq_true rfl) rfl ?_
  intro p e s m below meth c A hC hnm
  obtain ⟨Q, hQ⟩ : ∃ Q, Q = MQ below (px_Q E (px_v L (fun f' => ∃ x' y', dg x' ∧ dg y' ∧ vl 4294967296 x' 21 = vl 4294967296 x 21 / Nat.gcd (vl 4294967296 x 21) (vl 4294967296 y 21) ∧ vl 4294967296 y' 21 = vl 4294967296 y 21 / Nat.gcd (vl 4294967296 x 21) (vl 4294967296 y 21) ∧ px_at L f' tp (aJ E 21 (lw x')) ∧ px_at L f' bt (aJ E 21 (lw y')) ∧ (∃ r, px_at L f' ot (aJ E 21 r)) ∧ (∃ r, px_at L f' ob (aJ E 21 r)) ∧ ∀ b, b ≠ tp → b ≠ bt → b ≠ ot → b ≠ ob → f' b = f b)) A) [.ref lt, .int (nI w)].toArray s (px_rm 4 99).cells (px_rm 4 99).slots A := ⟨_, rfl⟩
  rw [← hQ]
  obtain ⟨n1, n2, n3, n4, n5, n6⟩ := hD
  have hqt : lt ≠ tp := hq.nk ht rfl
  have hqb : lt ≠ bt := hq.nk hb rfl
  have hqo : lt ≠ ot := hq.nk hot rfl
  have hqp : lt ≠ ob := hq.nk hob rfl
  have tx := vl_top hw zx
  have ty := vl_top hw zy
  refine px_aload_n hC 0 rfl dX2_removeCommonOddFactor_0 ?_
  refine px_get (C := RX2) (T := TX2) (N := 6) hC hq rfl kkX2_removeCommonOddFactor_X2 0 (by decide) flX2_removeCommonOddFactor_9 rfl dX2_removeCommonOddFactor_1 ?_
  refine px_aload_n hC 0 rfl dX2_removeCommonOddFactor_4 ?_
  refine px_get (C := RX2) (T := TX2) (N := 6) hC hq rfl kkX2_removeCommonOddFactor_X2 2 (by decide) flX2_removeCommonOddFactor_18 rfl dX2_removeCommonOddFactor_5 ?_
  refine px_callSv (st := []) (nn := 2) hC (c_copy l E L f tp ot x r1 ht hot) gX2_removeCommonOddFactor_X1_copy rfl (by decide +kernel) (by decide) (Nat.le_of_ble_eq_true rfl) (by decide) rfl rfl dX2_removeCommonOddFactor_8 (fun f1 h2 => ?_)
  subst h2
  refine px_aload_n hC 0 rfl dX2_removeCommonOddFactor_11 ?_
  refine px_get (C := RX2) (T := TX2) (N := 6) hC (hq.up hqo) rfl kkX2_removeCommonOddFactor_X2 1 (by decide) flX2_removeCommonOddFactor_15 rfl dX2_removeCommonOddFactor_12 ?_
  refine px_aload_n hC 0 rfl dX2_removeCommonOddFactor_15 ?_
  refine px_get (C := RX2) (T := TX2) (N := 6) hC (hq.up hqo) rfl kkX2_removeCommonOddFactor_X2 3 (by decide) flX2_removeCommonOddFactor_21 rfl dX2_removeCommonOddFactor_16 ?_
  refine px_callSv (st := []) (nn := 2) hC (c_copy l E L _ bt ob y r2 (hb.up n4) (hob.up (fun h => n6 h.symm))) gX2_removeCommonOddFactor_X1_copy rfl (by decide +kernel) (by decide) (Nat.le_of_ble_eq_true rfl) (by decide) rfl rfl dX2_removeCommonOddFactor_19 (fun f1 h2 => ?_)
  subst h2
  refine px_aload_n hC 0 rfl dX2_removeCommonOddFactor_22 ?_
  refine px_get (C := RX2) (T := TX2) (N := 6) hC ((hq.up hqo).up hqp) rfl kkX2_removeCommonOddFactor_X2 2 (by decide) flX2_removeCommonOddFactor_18 rfl dX2_removeCommonOddFactor_23 ?_
  refine px_iload_n hC 1 rfl dX2_removeCommonOddFactor_26 ?_
  refine px_callSv (st := []) (nn := 2) hC (c_rmT l E L _ ot w x (hot.self.up n6) dx hw zx (by omega)) gX2_removeCommonOddFactor_X2_removeTwos rfl (by decide +kernel) (by decide) (Nat.le_of_ble_eq_true rfl) (by decide) rfl rfl dX2_removeCommonOddFactor_27 (fun f1 h2 => ?_)
  obtain ⟨xo, dxo, zxo, ⟨t1, o1, e1, e1'⟩, rfl⟩ := h2
  rw [px_uc _ _ _ (fun h => n6 h.symm), px_uu]
  refine px_aload_n hC 0 rfl dX2_removeCommonOddFactor_30 ?_
  refine px_get (C := RX2) (T := TX2) (N := 6) hC ((hq.up hqo).up hqp) rfl kkX2_removeCommonOddFactor_X2 3 (by decide) flX2_removeCommonOddFactor_21 rfl dX2_removeCommonOddFactor_31 ?_
  refine px_iload_n hC 1 rfl dX2_removeCommonOddFactor_34 ?_
  refine px_callSv (st := []) (nn := 2) hC (c_rmT l E L _ ob w y ((hob.up (fun h => n6 h.symm)).self) dy hw zy (by omega)) gX2_removeCommonOddFactor_X2_removeTwos rfl (by decide +kernel) (by decide) (Nat.le_of_ble_eq_true rfl) (by decide) rfl rfl dX2_removeCommonOddFactor_35 (fun f1 h2 => ?_)
  obtain ⟨yo, dyo, zyo, ⟨t2, o2, e2, e2'⟩, rfl⟩ := h2
  rw [px_uu]
  have txo := vl_top hw zxo
  have tyo := vl_top hw zyo
  have hg : Nat.gcd (vl 4294967296 xo 21) (vl 4294967296 yo 21) = Nat.gcd (vl 4294967296 x 21) (vl 4294967296 y 21) := by
    rw [txo, tyo, e1', e2', tx, ty]
    exact gcd_parts e1 e2 (by rw [← tx, ← ty]; exact hodd)
  refine px_aload_n hC 0 rfl dX2_removeCommonOddFactor_38 ?_
  refine px_iload_n hC 1 rfl dX2_removeCommonOddFactor_39 ?_
  refine px_callVr (C := RX2) (T := TX2) (N := 6) (st := []) (nn := 1) hC (c_coF l E L _ lt w (x := xo) (y := yo) ((hq.up hqo).up hqp) (hot.self.up n6) ((hob.up (fun h => n6 h.symm)).self) n6 dxo dyo h1 hw zxo zyo (by rw [txo, e1']; omega) (by rw [tyo, e2']; omega)) ((hq.up hqo).up hqp) rfl gX2_removeCommonOddFactor_X2_commonOddFactor rfl (by decide +kernel) (by decide) (Nat.le_of_ble_eq_true rfl) (by decide) rfl rfl dX2_removeCommonOddFactor_40 (fun z f2 h3 => ?_)
  obtain ⟨hz1, ⟨gx, dgx, vgx, hgx⟩, hz3, hz4, hfr⟩ := h3
  rw [hg] at vgx
  have gne : ∀ b, b ≠ ot → b ≠ ob → f2 b = f b := fun b a1 a2 => by rw [hfr b a1 a2, va_up_ne _ _ a2, va_up_ne _ _ a1]
  have hg0 : Nat.gcd (vl 4294967296 x 21) (vl 4294967296 y 21) % 2 = 1 := by
    rcases Nat.mod_two_eq_zero_or_one (Nat.gcd (vl 4294967296 x 21) (vl 4294967296 y 21)) with q | q
    · have d2 : 2 ∣ Nat.gcd (vl 4294967296 x 21) (vl 4294967296 y 21) := Nat.dvd_of_mod_eq_zero q
      have d3 := Nat.dvd_trans d2 (Nat.gcd_dvd_left _ _)
      have d4 := Nat.dvd_trans d2 (Nat.gcd_dvd_right _ _)
      omega
    · exact q
  have hgl : Nat.gcd (vl 4294967296 x 21) (vl 4294967296 y 21) ≤ vl 4294967296 x 21 := Nat.le_of_dvd (by omega) (Nat.gcd_dvd_left _ _)
  have hxw := vl_lt (B := 4294967296) (x := x) (n := w) (fun i hi => dx i (by omega))
  have zgx : hz gx w := hz_of (by rw [vgx]; omega)
  have tgx := vl_top hw zgx
  obtain ⟨ax, hax⟩ := Nat.gcd_dvd_left (vl 4294967296 x 21) (vl 4294967296 y 21)
  obtain ⟨ay, hay⟩ := Nat.gcd_dvd_right (vl 4294967296 x 21) (vl 4294967296 y 21)
  generalize Nat.gcd (vl 4294967296 x 21) (vl 4294967296 y 21) = g at vgx hg0 hgl hax hay hQ
  have hzt : z ≠ tp := by rcases hz1 with q | q <;> (rw [q]; first | exact fun h => n2 h.symm | exact fun h => n3 h.symm)
  have hzb : z ≠ bt := by rcases hz1 with q | q <;> (rw [q]; first | exact fun h => n4 h.symm | exact fun h => n5 h.symm)
  have hq2 : px_at L f2 lt (.inr (1, lF tp bt ot ob nu de)) := hq.fr (gne lt hqo hqp)
  have ht2 : px_at L f2 tp (aJ E 21 (lw x)) := ht.fr (gne tp n2 n3)
  have hb2 : px_at L f2 bt (aJ E 21 (lw y)) := hb.fr (gne bt n4 n5)
  have go : gx 0 % 2 = 1 := by
    have e : vl 4294967296 gx 21 = gx 0 + 4294967296 * vl 4294967296 (fun i => gx (1 + i)) 20 := vl_s1 4294967296 gx 20
    omega
  refine px_astore_n (lv' := [(0, .ref lt), (1, .int (nI w)), (2, .ref z)]) hC [1, 2, 0] dX2_removeCommonOddFactor_43 (by decide) rfl ?_
  refine px_aload_n hC 2 rfl dX2_removeCommonOddFactor_44 ?_
  refine px_iconst (v := nI 0) hC (by decide) dX2_removeCommonOddFactor_45 ?_
  refine px_lald hC hgx (by decide) (by first | decide | assumption | omega) dX2_removeCommonOddFactor_46 ?_
  refine px_callSl (st := []) (nn := 1) hC (c_inv l E L _ (gx 0) go (dgx 0 (by decide))) gX2_removeCommonOddFactor_X1_inverse rfl (by decide +kernel) (by decide) (Nat.le_of_ble_eq_true rfl) (by decide) rfl rfl dX2_removeCommonOddFactor_47 (fun z2 f3 h4 => ?_)
  obtain ⟨rfl, iv, rfl, hiv, hi1⟩ := h4
  refine px_lstore_n (lv' := [(0, .ref lt), (1, .int (nI w)), (2, .ref z), (3, .long (lN iv))]) hC [1, 2, 3, 0] dX2_removeCommonOddFactor_50 (by decide) rfl ?_
  refine px_aload_n hC 0 rfl dX2_removeCommonOddFactor_51 ?_
  refine px_get (C := RX2) (T := TX2) (N := 6) hC hq2 rfl kkX2_removeCommonOddFactor_X2 0 (by decide) flX2_removeCommonOddFactor_9 rfl dX2_removeCommonOddFactor_52 ?_
  refine px_aload_n hC 2 rfl dX2_removeCommonOddFactor_55 ?_
  refine px_lload_n hC 3 rfl dX2_removeCommonOddFactor_56 ?_
  refine px_iload_n hC 1 rfl dX2_removeCommonOddFactor_57 ?_
  refine px_callSv (st := []) (nn := 4) hC (c_divE l E L _ tp z iv w x gx ht2 hgx hzt hw hiv hi1 dx dgx) gX2_removeCommonOddFactor_X1_divideEvenly rfl (by decide +kernel) (by decide) (Nat.le_of_ble_eq_true rfl) (by decide) rfl rfl dX2_removeCommonOddFactor_58 (fun f4 h5 => ?_)
  obtain ⟨x', dx', kx, ex, rfl⟩ := h5
  refine px_aload_n hC 0 rfl dX2_removeCommonOddFactor_61 ?_
  refine px_get (C := RX2) (T := TX2) (N := 6) hC (hq2.up hqt) rfl kkX2_removeCommonOddFactor_X2 1 (by decide) flX2_removeCommonOddFactor_15 rfl dX2_removeCommonOddFactor_62 ?_
  refine px_aload_n hC 2 rfl dX2_removeCommonOddFactor_65 ?_
  refine px_lload_n hC 3 rfl dX2_removeCommonOddFactor_66 ?_
  refine px_iload_n hC 1 rfl dX2_removeCommonOddFactor_67 ?_
  refine px_callSv (st := []) (nn := 4) hC (c_divE l E L _ bt z iv w y gx (hb2.up (fun h => n1 h.symm)) (hgx.up hzt) hzb hw hiv hi1 dy dgx) gX2_removeCommonOddFactor_X1_divideEvenly rfl (by decide +kernel) (by decide) (Nat.le_of_ble_eq_true rfl) (by decide) rfl rfl dX2_removeCommonOddFactor_68 (fun f5 h6 => ?_)
  obtain ⟨y', dy', ky, ey, rfl⟩ := h6
  have hgp : 0 < g := by omega
  have vx : vl 4294967296 x' w = ax := dv_exact dx dx' hw ex (by rw [← tgx]; exact vgx) hg0 (by rw [← tx]; exact hax)
  have vy : vl 4294967296 y' w = ay := dv_exact dy dy' hw ey (by rw [← tgx]; exact vgx) hg0 (by rw [← ty]; exact hay)
  have tx' := vl_top hw (show hz x' w from fun i a1 a2 => by rw [kx i a1]; exact zx i a1 a2)
  have ty' := vl_top hw (show hz y' w from fun i a1 a2 => by rw [ky i a1]; exact zy i a1 a2)
  subst hQ
  exact px_vret hC rfl (⟨rfl, rfl, x', y', dx', dy', by rw [tx', vx, hax, Nat.mul_div_cancel_left _ hgp], by rw [ty', vy, hay, Nat.mul_div_cancel_left _ hgp], ht2.self.up n1, (hb2.up (fun h => n1 h.symm)).self, (by obtain ⟨r, hr⟩ := hz3; exact ⟨r, (hr.up (fun h => n2 h.symm)).up (fun h => n4 h.symm)⟩), (by obtain ⟨r, hr⟩ := hz4; exact ⟨r, (hr.up (fun h => n3 h.symm)).up (fun h => n5 h.symm)⟩), fun b a1 a2 a3 a4 => by rw [va_up_ne _ _ a2, va_up_ne _ _ a1]; exact gne b a3 a4⟩) dX2_removeCommonOddFactor_71
def fN (D V : Int) : Int := if D < 0 ↔ V < 0 then ((D.natAbs / Nat.gcd D.natAbs V.natAbs : Nat) : Int) else -((D.natAbs / Nat.gcd D.natAbs V.natAbs : Nat) : Int)
def fM (D V : Int) : Nat := V.natAbs / Nat.gcd D.natAbs V.natAbs
def fit (D V : Int) : Prop := -(2 : Int) ^ 63 ≤ fN D V ∧ fN D V < 2 ^ 63 ∧ fM D V < 2 ^ 63
theorem lN_neg {X : Nat} (h : X ≤ 2 ^ 63) : (-(lN X)).toInt = -(X : Int) := by
  have e : -(lN X) = lN (2 ^ 64 - X) := by
    have h1 : lN (2 ^ 64 - X) + lN X = 0 := by rw [lN_add, Nat.sub_add_cancel (by omega), wb_mod, Nat.mod_self]; rfl
    have h2 : lN (2 ^ 64 - X) = lN (2 ^ 64 - X) + lN X - lN X := by rw [Int64.add_sub_cancel]
    rw [h2, h1, Int64.zero_sub]
  rw [e]
  show (BitVec.ofNat 64 (2 ^ 64 - X)).toInt = _
  rw [BitVec.toInt_eq_toNat_cond, BitVec.toNat_ofNat]
  rcases Nat.eq_zero_or_pos X with q | q
  · subst q; rfl
  · rw [Nat.mod_eq_of_lt (by omega), if_neg (by omega)]; omega
def lOK (E : px_E) (L : List Nat) (f : Nat → va_E) (lt tp bt ot ob : Nat) : Prop := lD tp bt ot ob ∧ (∃ nu de, px_at L f lt (.inr (1, lF tp bt ot ob nu de))) ∧ (∃ r, px_at L f tp (aJ E 21 r)) ∧ (∃ r, px_at L f bt (aJ E 21 r)) ∧ (∃ r, px_at L f ot (aJ E 21 r)) ∧ ∃ r, px_at L f ob (aJ E 21 r)
theorem q_scale {a b a' b' g c : Nat} (hc : 0 < c) (h1 : a' * c = a) (h2 : b' * c = b) : a' / Nat.gcd a' b' = a / Nat.gcd a b ∧ b' / Nat.gcd a' b' = b / Nat.gcd a b := by
  have e : Nat.gcd a b = Nat.gcd a' b' * c := by rw [← h1, ← h2, Nat.gcd_mul_right]
  rw [e, ← h1, ← h2]
  exact ⟨(Nat.mul_div_mul_right _ _ hc).symm, (Nat.mul_div_mul_right _ _ hc).symm⟩
theorem fit_iff {b' X Y : Nat} {D V : Int} (eN : fN D V = if b' = 0 then (X : Int) else -(X : Int)) (eM : fM D V = Y) (hb2 : b' < 2) : fit D V ↔ (X < 2 ^ 63 ∨ (b' = 1 ∧ X = 2 ^ 63)) ∧ Y < 2 ^ 63 := by
  unfold fit
  rw [eN, eM]
  rcases (show b' = 0 ∨ b' = 1 by omega) with q | q
  · subst q; rw [if_pos rfl]; omega
  · subst q; rw [if_neg (by decide)]; omega
theorem two_of {b : Nat} (h : b < 2) : b = 0 ∨ b = 1 := by omega
theorem big_of {X : Nat} {b : Nat} (h : X < 2 ^ 63 ∨ (b = 1 ∧ X = 2 ^ 63)) : X ≤ 2 ^ 63 := by omega
theorem sml_of {X : Nat} (h : X < 2 ^ 63 ∨ (0 = 1 ∧ X = 2 ^ 63)) : X < 2 ^ 63 := by omega
theorem iff_a {P Q : Prop} {x y : Nat} (h1 : 2147483648 ≤ x ↔ P) (h2 : 2147483648 ≤ y ↔ Q) (hx : 2147483648 ≤ x) (hy : 2147483648 ≤ y) : P ↔ Q := ⟨fun _ => h2.mp hy, fun _ => h1.mp hx⟩
theorem iff_b {P Q : Prop} {x y : Nat} (h1 : 2147483648 ≤ x ↔ P) (h2 : 2147483648 ≤ y ↔ Q) (hx : x < 2147483648) (hy : y < 2147483648) : P ↔ Q := ⟨fun h => absurd (h1.mpr h) (by omega), fun h => absurd (h2.mpr h) (by omega)⟩
theorem iff_c {P Q : Prop} {x y : Nat} (h1 : 2147483648 ≤ x ↔ P) (h2 : 2147483648 ≤ y ↔ Q) (hx : 2147483648 ≤ x) (hy : y < 2147483648) : ¬ (P ↔ Q) := fun h => absurd (h2.mpr (h.mp (h1.mp hx))) (by omega)
theorem c_find (l : Launch) (E : px_E) (L : List Nat) (f : Nat → va_E) (lt a b w : Nat) {tp bt ot ob : Nat} {D V : Int} (hOK : lOK E L f lt tp bt ot ob) (hA : cR E L f a D) (hB : cR E L f b V) (hV : V ≠ 0) (ha : a ≠ tp ∧ a ≠ bt ∧ a ≠ ot ∧ a ≠ ob) (hb : b ≠ tp ∧ b ≠ bt ∧ b ≠ ot ∧ b ≠ ob) (h1 : 1 ≤ w) (hw : w ≤ 21) (hDw : D.natAbs < 4294967296 ^ w) (hVw : V.natAbs < 4294967296 ^ w) : px_M l yX2_find wsX2_find (px_rm 5 123) E L f [.ref lt, .ref a, .ref b, .int (nI w)] (px_i L (fun z f' => lOK E L f' lt tp bt ot ob ∧ (∀ c, c ≠ lt → c ≠ tp → c ≠ bt → c ≠ ot → c ≠ ob → f' c = f c) ∧ ((z = nI 1 ∧ fit D V ∧ ∃ nu de : Int64, nu.toInt = fN D V ∧ de.toInt = fM D V ∧ px_at L f' lt (.inr (1, lF tp bt ot ob nu de))) ∨ (z = nI 0 ∧ ¬ fit D V)))) := by
  refine px_M.of (cc := cX2_find) (maxL := 5) (ret := (some .boolean)) (lv := [(0, .ref lt), (1, .ref a), (2, .ref b), (3, .int (nI w))]) (by decide) rfl (Nat.le_of_ble_eq_true rfl) rfl ?_
  intro p e s m below meth c A hC hnm
  obtain ⟨Q, hQ⟩ : ∃ Q, Q = MQ below (px_Q E (px_i L (fun z f' => lOK E L f' lt tp bt ot ob ∧ (∀ c, c ≠ lt → c ≠ tp → c ≠ bt → c ≠ ot → c ≠ ob → f' c = f c) ∧ ((z = nI 1 ∧ fit D V ∧ ∃ nu de : Int64, nu.toInt = fN D V ∧ de.toInt = fM D V ∧ px_at L f' lt (.inr (1, lF tp bt ot ob nu de))) ∨ (z = nI 0 ∧ ¬ fit D V)))) A) [.ref lt, .ref a, .ref b, .int (nI w)].toArray s (px_rm 5 123).cells (px_rm 5 123).slots A := ⟨_, rfl⟩
  rw [← hQ]
  obtain ⟨hD, ⟨nu0, de0, hq⟩, ⟨r1, ht⟩, ⟨r2, hbt⟩, ⟨r3, hot⟩, ⟨r4, hob⟩⟩ := hOK
  obtain ⟨n1, n2, n3, n4, n5, n6⟩ := id hD
  obtain ⟨xa, hxa, dxa, sxa⟩ := hA
  obtain ⟨xb, hxb, dxb, sxb⟩ := hB
  have hqt : lt ≠ tp := hq.nk ht rfl
  have hqb : lt ≠ bt := hq.nk hbt rfl
  have hqo : lt ≠ ot := hq.nk hot rfl
  have hqp : lt ≠ ob := hq.nk hob rfl
  refine px_aload_n hC 1 rfl dX2_find_0 ?_
  refine px_callSi (st := []) (nn := 1) hC (c_isZero l E L f a xa hxa dxa) gX2_find_X1_isZero rfl (by decide +kernel) (by decide) (Nat.le_of_ble_eq_true rfl) (by decide) rfl rfl dX2_find_1 (fun z f1 hz1 => ?_)
  obtain ⟨rfl, hz1⟩ := hz1
  rcases hz1 with ⟨rfl, hz1⟩ | ⟨rfl, hz1⟩
  · have hD0 : D = 0 := by rw [← sxa]; exact (sg_0 dxa).mp hz1
    have eN : fN D V = 0 := by unfold fN; rw [hD0]; simp
    have eM : fM D V = 1 := by unfold fM; rw [hD0, Int.natAbs_zero, Nat.gcd_zero_left]; exact Nat.div_self (by omega)
    refine px_if_eq hC 19 dX2_find_4 (by decide) (fun q9 => absurd q9 (by decide)) (fun _ => ?_)
    refine px_aload_n hC 0 rfl dX2_find_7 ?_
    refine px_lconst (v := lN 0) hC (by decide) dX2_find_8 ?_
    refine px_put (C := RX2) (T := TX2) (N := 6) (fs' := lF tp bt ot ob (lN 0) de0) hC hq rfl kkX2_find_X2 4 (by decide) tyX2 tyX2_ok nmX2 flX2_find_24 rfl rfl rfl (Nat.le_of_ble_eq_true rfl) rfl dX2_find_9 ?_
    refine px_aload_n hC 0 rfl dX2_find_12 ?_
    refine px_lconst (v := lN 1) hC (by decide) dX2_find_13 ?_
    refine px_put (C := RX2) (T := TX2) (N := 6) (fs' := lF tp bt ot ob (lN 0) (lN 1)) hC hq.self rfl kkX2_find_X2 5 (by decide) tyX2 tyX2_ok nmX2 flX2_find_28 rfl rfl rfl (Nat.le_of_ble_eq_true rfl) rfl dX2_find_14 ?_
    rw [px_uu]
    refine px_iconst (v := nI 1) hC (by decide) dX2_find_17 ?_
    subst hQ
    exact px_zret hC rfl (by decide) (⟨_, rfl, rfl, ⟨hD, ⟨_, _, hq.self⟩, ⟨r1, ht.up (fun h => hqt h.symm)⟩, ⟨r2, hbt.up (fun h => hqb h.symm)⟩, ⟨r3, hot.up (fun h => hqo h.symm)⟩, ⟨r4, hob.up (fun h => hqp h.symm)⟩⟩, fun c a1 _ _ _ _ => va_up_ne _ _ a1, Or.inl ⟨rfl, ⟨by rw [eN]; decide, by rw [eN]; decide, by rw [eM]; decide⟩, lN 0, lN 1, by rw [eN]; decide, by rw [eM]; decide, hq.self⟩⟩) dX2_find_18
  have hDn : D ≠ 0 := fun h => hz1 ((sg_0 dxa).mpr (by rw [sxa]; exact h))
  have hDa : D.natAbs ≠ 0 := Int.natAbs_ne_zero.mpr hDn
  have hVa : V.natAbs ≠ 0 := Int.natAbs_ne_zero.mpr hV
  have rest : ∀ b' : Nat, b' < 2 → (b' = 0 ↔ (D < 0 ↔ V < 0)) → px p l e (px_rm 5 123) s m [.ref lt, .ref a, .ref b, .int (nI w)].toArray below meth c 5 E A s.heap L (f1) 0 0 Q 35 [(0, .ref lt), (1, .ref a), (2, .ref b), (3, .int (nI w))] [.int (nI b')] := by
    intro b' hb2 hbs
    refine px_istore (lv' := [(0, .ref lt), (1, .ref a), (2, .ref b), (3, .int (nI w)), (4, .int (nI b'))]) hC [1, 2, 3, 4, 0] dX2_find_35 (by decide) rfl ?_
    refine px_aload_n hC 1 rfl dX2_find_37 ?_
    refine px_aload_n hC 0 rfl dX2_find_38 ?_
    refine px_get (C := RX2) (T := TX2) (N := 6) hC hq rfl kkX2_find_X2 0 (by decide) flX2_find_9 rfl dX2_find_39 ?_
    refine px_callSv (st := []) (nn := 2) hC (c_copyM l E L _ a tp xa r1 hxa ht ha.1 dxa) gX2_find_X1_copyMagnitude rfl (by decide +kernel) (by decide) (Nat.le_of_ble_eq_true rfl) (by decide) rfl rfl dX2_find_42 (fun f2 h2 => ?_)
    obtain ⟨x1, dx1, vx1, rfl⟩ := h2
    rw [sxa] at vx1
    refine px_aload_n hC 2 rfl dX2_find_45 ?_
    refine px_aload_n hC 0 rfl dX2_find_46 ?_
    refine px_get (C := RX2) (T := TX2) (N := 6) hC (hq.up hqt) rfl kkX2_find_X2 1 (by decide) flX2_find_15 rfl dX2_find_47 ?_
    refine px_callSv (st := []) (nn := 2) hC (c_copyM l E L _ b bt xb r2 (hxb.up hb.1) (hbt.up (fun h => n1 h.symm)) hb.2.1 dxb) gX2_find_X1_copyMagnitude rfl (by decide +kernel) (by decide) (Nat.le_of_ble_eq_true rfl) (by decide) rfl rfl dX2_find_50 (fun f2 h2 => ?_)
    obtain ⟨y1, dy1, vy1, rfl⟩ := h2
    rw [sxb] at vy1
    refine px_aload_n hC 0 rfl dX2_find_53 ?_
    refine px_iload_n hC 3 rfl dX2_find_54 ?_
    refine px_callVv (C := RX2) (T := TX2) (N := 6) (st := []) (nn := 1) hC (c_rmCT l E L _ lt w (x := x1) (y := y1) ((hq.up hqt).up hqb) (ht.self.up n1) ((hbt.up (fun h => n1 h.symm)).self) n1 dx1 dy1 hw (hz_of (by rw [vx1]; exact hDw)) (hz_of (by rw [vy1]; exact hVw)) (by rw [vx1]; exact hDa) (by rw [vy1]; exact hVa)) ((hq.up hqt).up hqb) rfl gX2_find_X2_removeCommonTwos rfl (by decide +kernel) (by decide) (Nat.le_of_ble_eq_true rfl) (by decide) rfl rfl dX2_find_55 (fun f2 h2 => ?_)
    obtain ⟨x2, y2, sft, dx2, dy2, zx2, zy2, vx2, vy2, hodd, rfl⟩ := h2
    rw [px_uc _ _ _ (fun h => n1 h.symm), px_uu, px_uu]
    refine px_aload_n hC 0 rfl dX2_find_58 ?_
    refine px_iload_n hC 3 rfl dX2_find_59 ?_
    refine px_callVv (C := RX2) (T := TX2) (N := 6) (st := []) (nn := 1) hC (c_rmCO l E L _ lt w (x := x2) (y := y2) ((hq.up hqt).up hqb) hD (ht.self.up n1) ((hbt.up (fun h => n1 h.symm)).self) ((hot.up (fun h => n2 h.symm)).up (fun h => n4 h.symm)) ((hob.up (fun h => n3 h.symm)).up (fun h => n5 h.symm)) dx2 dy2 h1 hw zx2 zy2 (fun h => by rw [h, Nat.zero_mul, vx1] at vx2; exact hDa vx2.symm) (fun h => by rw [h, Nat.zero_mul, vy1] at vy2; exact hVa vy2.symm) hodd) ((hq.up hqt).up hqb) rfl gX2_find_X2_removeCommonOddFactor rfl (by decide +kernel) (by decide) (Nat.le_of_ble_eq_true rfl) (by decide) rfl rfl dX2_find_60 (fun f3 h3 => ?_)
    obtain ⟨x3, y3, dx3, dy3, vx3, vy3, hpt, hpb, hpo, hpp, hfr⟩ := h3
    have hsc := q_scale (g := 0) (Nat.pow_pos (n := sft) (show 0 < 2 by decide)) vx2 vy2
    rw [hsc.1, vx1, vy1] at vx3
    rw [hsc.2, vx1, vy1] at vy3
    have fr2 : ∀ c, c ≠ tp → c ≠ bt → c ≠ ot → c ≠ ob → f3 c = f1 c := fun c a1 a2 a3 a4 => by rw [hfr c a1 a2 a3 a4, va_up_ne _ _ a2, va_up_ne _ _ a1]
    have hq3 : px_at L f3 lt (.inr (1, lF tp bt ot ob nu0 de0)) := hq.fr (fr2 lt hqt hqb hqo hqp)
    have eM : fM D V = vl 4294967296 y3 21 := vy3.symm
    have eN : fN D V = if b' = 0 then (vl 4294967296 x3 21 : Int) else -(vl 4294967296 x3 21 : Int) := by
      unfold fN
      rw [vx3]
      by_cases q : b' = 0
      · rw [if_pos (hbs.mp q), if_pos q]
      · rw [if_neg (fun h => q (hbs.mpr h)), if_neg q]
    have ok3 : lOK E L f3 lt tp bt ot ob := ⟨hD, ⟨_, _, hq3⟩, ⟨_, hpt⟩, ⟨_, hpb⟩, hpo, hpp⟩
    refine px_aload_n hC 0 rfl dX2_find_63 ?_
    refine px_get (C := RX2) (T := TX2) (N := 6) hC hq3 rfl kkX2_find_X2 0 (by decide) flX2_find_9 rfl dX2_find_64 ?_
    refine px_iload hC 4 rfl dX2_find_67 ?_
    refine px_callSi (st := []) (nn := 2) hC (c_fits l E L _ tp b' x3 hpt dx3 hb2) gX2_find_X2_fitsLong rfl (by decide +kernel) (by decide) (Nat.le_of_ble_eq_true rfl) (by decide) rfl rfl dX2_find_69 (fun z4 f4 h4 => ?_)
    obtain ⟨rfl, h4⟩ := h4
    rcases h4 with ⟨rfl, h4, s4⟩ | ⟨rfl, h4⟩
    · refine px_if_eq hC 86 dX2_find_72 (by decide) (fun q9 => absurd q9 (by decide)) (fun _ => ?_)
      refine px_aload_n hC 0 rfl dX2_find_75 ?_
      refine px_get (C := RX2) (T := TX2) (N := 6) hC hq3 rfl kkX2_find_X2 1 (by decide) flX2_find_15 rfl dX2_find_76 ?_
      refine px_iconst (v := nI 0) hC (by decide) dX2_find_79 ?_
      refine px_callSi (st := []) (nn := 2) hC (c_fits l E L _ bt 0 y3 hpb dy3 (by decide)) gX2_find_X2_fitsLong rfl (by decide +kernel) (by decide) (Nat.le_of_ble_eq_true rfl) (by decide) rfl rfl dX2_find_80 (fun z5 f5 h5 => ?_)
      obtain ⟨rfl, h5⟩ := h5
      rcases h5 with ⟨rfl, h5, s5⟩ | ⟨rfl, h5⟩
      · have h5' : vl 4294967296 y3 21 < 2 ^ 63 := by rcases h5 with q | ⟨q, -⟩; exact q; exact absurd q (by decide)
        have hfit : fit D V := (fit_iff eN eM hb2).mpr ⟨h4, h5'⟩
        refine px_if_ne hC 88 dX2_find_83 (by decide) (fun _ => ?_) (fun q9 => absurd q9 (by decide))
        refine px_aload_n hC 0 rfl dX2_find_88 ?_
        refine px_iload hC 4 rfl dX2_find_89 ?_
        rcases two_of hb2 with q | q
        · subst q
          refine px_if_eq hC 105 dX2_find_91 (by decide) (fun _ => ?_) (fun q9 => (q9 (by decide)).elim)
          refine px_aload_n hC 0 rfl dX2_find_105 ?_
          refine px_get (C := RX2) (T := TX2) (N := 6) hC hq3 rfl kkX2_find_X2 0 (by decide) flX2_find_9 rfl dX2_find_106 ?_
          refine px_callSl (st := [.ref lt]) (nn := 1) hC (c_lowB l E L _ tp x3 hpt dx3) gX2_find_X2_lowBits rfl (by decide +kernel) (by decide) (Nat.le_of_ble_eq_true rfl) (by decide) rfl rfl dX2_find_109 (fun z6 f6 h6 => ?_)
          obtain ⟨rfl, rfl⟩ := h6
          rw [← s4]
          refine px_put (C := RX2) (T := TX2) (N := 6) (fs' := lF tp bt ot ob (lN (vl 4294967296 x3 21)) de0) hC hq3 rfl kkX2_find_X2 4 (by decide) tyX2 tyX2_ok nmX2 flX2_find_24 rfl rfl rfl (Nat.le_of_ble_eq_true rfl) rfl dX2_find_112 ?_
          refine px_aload_n hC 0 rfl dX2_find_115 ?_
          refine px_aload_n hC 0 rfl dX2_find_116 ?_
          refine px_get (C := RX2) (T := TX2) (N := 6) hC hq3.self rfl kkX2_find_X2 1 (by decide) flX2_find_15 rfl dX2_find_117 ?_
          refine px_callSl (st := [.ref lt]) (nn := 1) hC (c_lowB l E L _ bt y3 (hpb.up (fun h => hqb h.symm)) dy3) gX2_find_X2_lowBits rfl (by decide +kernel) (by decide) (Nat.le_of_ble_eq_true rfl) (by decide) rfl rfl dX2_find_120 (fun z7 f7 h7 => ?_)
          obtain ⟨rfl, rfl⟩ := h7
          rw [← s5]
          refine px_put (C := RX2) (T := TX2) (N := 6) (fs' := lF tp bt ot ob (lN (vl 4294967296 x3 21)) (lN (vl 4294967296 y3 21))) hC hq3.self rfl kkX2_find_X2 5 (by decide) tyX2 tyX2_ok nmX2 flX2_find_28 rfl rfl rfl (Nat.le_of_ble_eq_true rfl) rfl dX2_find_123 ?_
          rw [px_uu]
          refine px_iconst (v := nI 1) hC (by decide) dX2_find_126 ?_
          subst hQ
          exact px_zret hC rfl (by decide) (⟨_, rfl, rfl, ⟨hD, ⟨_, _, hq3.self⟩, ⟨_, hpt.up (fun h => hqt h.symm)⟩, ⟨_, hpb.up (fun h => hqb h.symm)⟩, (by obtain ⟨r, hr⟩ := hpo; exact ⟨r, hr.up (fun h => hqo h.symm)⟩), (by obtain ⟨r, hr⟩ := hpp; exact ⟨r, hr.up (fun h => hqp h.symm)⟩)⟩, fun c a1 a2 a3 a4 a5 => by rw [va_up_ne _ _ a1]; exact fr2 c a2 a3 a4 a5, Or.inl ⟨rfl, hfit, _, _, by rw [eN, if_pos rfl]; exact pk_lT (sml_of h4), by rw [eM]; exact pk_lT h5', hq3.self⟩⟩) dX2_find_127
        · subst q
          refine px_if_eq hC 105 dX2_find_91 (by decide) (fun q9 => absurd q9 (by decide)) (fun _ => ?_)
          refine px_aload_n hC 0 rfl dX2_find_94 ?_
          refine px_get (C := RX2) (T := TX2) (N := 6) hC hq3 rfl kkX2_find_X2 0 (by decide) flX2_find_9 rfl dX2_find_95 ?_
          refine px_callSl (st := [.ref lt]) (nn := 1) hC (c_lowB l E L _ tp x3 hpt dx3) gX2_find_X2_lowBits rfl (by decide +kernel) (by decide) (Nat.le_of_ble_eq_true rfl) (by decide) rfl rfl dX2_find_98 (fun z6 f6 h6 => ?_)
          obtain ⟨rfl, rfl⟩ := h6
          rw [← s4]
          refine px_lneg hC dX2_find_101 ?_
          refine px_goto hC 112 dX2_find_102 (by decide) ?_
          refine px_put (C := RX2) (T := TX2) (N := 6) (fs' := lF tp bt ot ob (-(lN (vl 4294967296 x3 21))) de0) hC hq3 rfl kkX2_find_X2 4 (by decide) tyX2 tyX2_ok nmX2 flX2_find_24 rfl rfl rfl (Nat.le_of_ble_eq_true rfl) rfl dX2_find_112 ?_
          refine px_aload_n hC 0 rfl dX2_find_115 ?_
          refine px_aload_n hC 0 rfl dX2_find_116 ?_
          refine px_get (C := RX2) (T := TX2) (N := 6) hC hq3.self rfl kkX2_find_X2 1 (by decide) flX2_find_15 rfl dX2_find_117 ?_
          refine px_callSl (st := [.ref lt]) (nn := 1) hC (c_lowB l E L _ bt y3 (hpb.up (fun h => hqb h.symm)) dy3) gX2_find_X2_lowBits rfl (by decide +kernel) (by decide) (Nat.le_of_ble_eq_true rfl) (by decide) rfl rfl dX2_find_120 (fun z7 f7 h7 => ?_)
          obtain ⟨rfl, rfl⟩ := h7
          rw [← s5]
          refine px_put (C := RX2) (T := TX2) (N := 6) (fs' := lF tp bt ot ob (-(lN (vl 4294967296 x3 21))) (lN (vl 4294967296 y3 21))) hC hq3.self rfl kkX2_find_X2 5 (by decide) tyX2 tyX2_ok nmX2 flX2_find_28 rfl rfl rfl (Nat.le_of_ble_eq_true rfl) rfl dX2_find_123 ?_
          rw [px_uu]
          refine px_iconst (v := nI 1) hC (by decide) dX2_find_126 ?_
          subst hQ
          exact px_zret hC rfl (by decide) (⟨_, rfl, rfl, ⟨hD, ⟨_, _, hq3.self⟩, ⟨_, hpt.up (fun h => hqt h.symm)⟩, ⟨_, hpb.up (fun h => hqb h.symm)⟩, (by obtain ⟨r, hr⟩ := hpo; exact ⟨r, hr.up (fun h => hqo h.symm)⟩), (by obtain ⟨r, hr⟩ := hpp; exact ⟨r, hr.up (fun h => hqp h.symm)⟩)⟩, fun c a1 a2 a3 a4 a5 => by rw [va_up_ne _ _ a1]; exact fr2 c a2 a3 a4 a5, Or.inl ⟨rfl, hfit, _, _, by rw [eN, if_neg (by decide)]; exact lN_neg (big_of h4), by rw [eM]; exact pk_lT h5', hq3.self⟩⟩) dX2_find_127
      · refine px_if_ne hC 88 dX2_find_83 (by decide) (fun q9 => (q9 (by decide)).elim) (fun _ => ?_)
        refine px_iconst (v := nI 0) hC (by decide) dX2_find_86 ?_
        subst hQ
        exact px_zret hC rfl (by decide) (⟨_, rfl, rfl, ok3, fun c a1 a2 a3 a4 a5 => fr2 c a2 a3 a4 a5, Or.inr ⟨rfl, fun h => h5 (Or.inl ((fit_iff eN eM hb2).mp h).2)⟩⟩) dX2_find_87
    · refine px_if_eq hC 86 dX2_find_72 (by decide) (fun _ => ?_) (fun q9 => (q9 (by decide)).elim)
      refine px_iconst (v := nI 0) hC (by decide) dX2_find_86 ?_
      subst hQ
      exact px_zret hC rfl (by decide) (⟨_, rfl, rfl, ok3, fun c a1 a2 a3 a4 a5 => fr2 c a2 a3 a4 a5, Or.inr ⟨rfl, fun h => h4 ((fit_iff eN eM hb2).mp h).1⟩⟩) dX2_find_87
  refine px_if_eq hC 19 dX2_find_4 (by decide) (fun _ => ?_) (fun q9 => (q9 (by decide)).elim)
  refine px_aload_n hC 1 rfl dX2_find_19 ?_
  refine px_callSi (st := []) (nn := 1) hC (c_isNeg l E L _ a xa hxa dxa) gX2_find_X1_isNegative rfl (by decide +kernel) (by decide) (Nat.le_of_ble_eq_true rfl) (by decide) rfl rfl dX2_find_20 (fun z8 f8 h8 => ?_)
  obtain ⟨rfl, h8⟩ := h8
  refine px_aload_n hC 2 rfl dX2_find_23 ?_
  refine px_callSi (st := [.int z8]) (nn := 1) hC (c_isNeg l E L _ b xb hxb dxb) gX2_find_X1_isNegative rfl (by decide +kernel) (by decide) (Nat.le_of_ble_eq_true rfl) (by decide) rfl rfl dX2_find_24 (fun z9 f9 h9 => ?_)
  obtain ⟨rfl, h9⟩ := h9
  have g1 := sg_neg dxa
  have g2 := sg_neg dxb
  rw [sxa] at g1
  rw [sxb] at g2
  rcases h8 with ⟨rfl, h8⟩ | ⟨rfl, h8⟩ <;> rcases h9 with ⟨rfl, h9⟩ | ⟨rfl, h9⟩
  · refine px_icmp_eq hC 34 dX2_find_27 (by decide) (fun _ => ?_) (fun q9 => (q9 (by decide)).elim)
    refine px_iconst (v := nI 0) hC (by decide) dX2_find_34 ?_
    exact rest 0 (by decide) ⟨fun _ => iff_a g1 g2 h8 h9, fun _ => rfl⟩
  · refine px_icmp_eq hC 34 dX2_find_27 (by decide) (fun q9 => absurd q9 (by decide)) (fun _ => ?_)
    refine px_iconst (v := nI 1) hC (by decide) dX2_find_30 ?_
    refine px_goto hC 35 dX2_find_31 (by decide) ?_
    exact rest 1 (by decide) ⟨fun h => absurd h (by decide), fun h => absurd h (iff_c g1 g2 h8 h9)⟩
  · refine px_icmp_eq hC 34 dX2_find_27 (by decide) (fun q9 => absurd q9 (by decide)) (fun _ => ?_)
    refine px_iconst (v := nI 1) hC (by decide) dX2_find_30 ?_
    refine px_goto hC 35 dX2_find_31 (by decide) ?_
    exact rest 1 (by decide) ⟨fun h => absurd h (by decide), fun h => absurd h.symm (iff_c g2 g1 h9 h8)⟩
  · refine px_icmp_eq hC 34 dX2_find_27 (by decide) (fun _ => ?_) (fun q9 => (q9 (by decide)).elim)
    refine px_iconst (v := nI 0) hC (by decide) dX2_find_34 ?_
    exact rest 0 (by decide) ⟨fun _ => iff_b g1 g2 h8 h9, fun _ => rfl⟩
