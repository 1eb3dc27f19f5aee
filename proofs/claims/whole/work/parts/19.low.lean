/-! ===== lowest terms ===== -/
abbrev lF (tp bt ot ob : Nat) (nu de : Int64) : List Value := [.ref tp, .ref bt, .ref ot, .ref ob, .long nu, .long de]
def hz (x : Nat → Nat) (w : Nat) : Prop := ∀ i, w ≤ i → i < 21 → x i = 0
theorem hz_of {x : Nat → Nat} {w : Nat} (h : vl 4294967296 x 21 < 4294967296 ^ w) : hz x w := by
  intro i h1 h2
  have h3 := vl_ge (B := 4294967296) (x := x) h2
  have h4 : 4294967296 ^ w ≤ 4294967296 ^ i := Nat.pow_le_pow_right (by decide) h1
  rcases Nat.eq_zero_or_pos (x i) with q | q
  · exact q
  · have : 1 * 4294967296 ^ i ≤ x i * 4294967296 ^ i := Nat.mul_le_mul_right _ q
    omega
theorem hz_mono {x : Nat → Nat} {u w : Nat} (h : hz x u) (hu : u ≤ w) : hz x w := fun i h1 h2 => h i (by omega) h2
theorem gcd_odd2 {t o s : Nat} (h : s % 2 = 1) : Nat.gcd (2 ^ t * o) s = Nat.gcd o s := by
  have h1 : Nat.gcd 2 s = 1 := by rw [Nat.gcd_rec, h]; rfl
  have h2 : Nat.gcd (2 ^ t) s = 1 := by
    induction t with
    | zero => simp
    | succ t ih =>
      rw [Nat.pow_succ]
      exact Nat.Coprime.mul_left ih h1
  exact Nat.Coprime.gcd_mul_left_cancel o h2
theorem gcd_sub2 {a b : Nat} (h : b ≤ a) : Nat.gcd (a - b) b = Nat.gcd a b := by
  have e : a = (a - b) + b := by omega
  rw [show Nat.gcd a b = Nat.gcd ((a - b) + b) b from by rw [← e], Nat.gcd_add_self_left]
theorem flX2_removeCommonTwos_9 : Cond.fieldLink RX2 9 "RowReduction$LowestTerms" "top" "[J" ∈ wsX2_removeCommonTwos := by decide +kernel
theorem kkX2_removeCommonTwos_X2 : ∀ w ∈ wsX20, w ∈ wsX2_removeCommonTwos := fun _ h => List.mem_cons_of_mem _ (List.mem_append_right _ h)
theorem flX2_removeCommonTwos_15 : Cond.fieldLink RX2 15 "RowReduction$LowestTerms" "bottom" "[J" ∈ wsX2_removeCommonTwos := by decide +kernel
theorem flX2_commonOddFactor_18 : Cond.fieldLink RX2 18 "RowReduction$LowestTerms" "oddTop" "[J" ∈ wsX2_commonOddFactor := by decide +kernel
theorem kkX2_commonOddFactor_X2 : ∀ w ∈ wsX20, w ∈ wsX2_commonOddFactor := fun _ h => List.mem_cons_of_mem _ (List.mem_append_right _ h)
theorem flX2_commonOddFactor_21 : Cond.fieldLink RX2 21 "RowReduction$LowestTerms" "oddBottom" "[J" ∈ wsX2_commonOddFactor := by decide +kernel
theorem tz_min {t s o V : Nat} (h : V = 2 ^ t * (2 * o + 1)) (hs : s ≤ t) : V / 2 ^ s = 2 ^ (t - s) * (2 * o + 1) ∧ V / 2 ^ s * 2 ^ s = V ∧ (s = t → V / 2 ^ s % 2 = 1) := by
  have e : 2 ^ t = 2 ^ s * 2 ^ (t - s) := by rw [← Nat.pow_add]; congr 1; omega
  have hp : 0 < 2 ^ s := Nat.pow_pos (by decide)
  have e2 : V / 2 ^ s = 2 ^ (t - s) * (2 * o + 1) := by rw [h, e, Nat.mul_assoc, Nat.mul_div_cancel_left _ hp]
  refine ⟨e2, ?_, fun q => ?_⟩
  · rw [e2, h, e]; grind
  · rw [e2, q, Nat.sub_self, Nat.pow_zero]; omega
theorem c_rmCT (l : Launch) (E : px_E) (L : List Nat) (f : Nat → va_E) (lt w : Nat) {tp bt ot ob : Nat} {nu de : Int64} {x y : Nat → Nat} (hq : px_at L f lt (.inr (1, lF tp bt ot ob nu de))) (ht : px_at L f tp (aJ E 21 (lw x))) (hb : px_at L f bt (aJ E 21 (lw y))) (htb : tp ≠ bt) (dx : dg x) (dy : dg y) (hw : w ≤ 21) (zx : hz x w) (zy : hz y w) (nx : vl 4294967296 x 21 ≠ 0) (ny : vl 4294967296 y 21 ≠ 0) : px_M l yX2_removeCommonTwos wsX2_removeCommonTwos (px_rm 2 51) E L f [.ref lt, .int (nI w)] (px_v L (fun f' => ∃ x' y' s, dg x' ∧ dg y' ∧ hz x' w ∧ hz y' w ∧ vl 4294967296 x' 21 * 2 ^ s = vl 4294967296 x 21 ∧ vl 4294967296 y' 21 * 2 ^ s = vl 4294967296 y 21 ∧ (vl 4294967296 x' 21 % 2 = 1 ∨ vl 4294967296 y' 21 % 2 = 1) ∧ f' = va_up (va_up f tp (aJ E 21 (lw x'))) bt (aJ E 21 (lw y')))) := by
  refine px_M.of (cc := cX2_removeCommonTwos) (maxL := 3) (ret := none) (lv := [(0, .ref lt), (1, .int (nI w))]) (by decide) rfl (Nat.le_of_ble_eq_true rfl) rfl ?_
  intro p e s m below meth c A hC hnm
  obtain ⟨Q, hQ⟩ : ∃ Q, Q = MQ below (px_Q E (px_v L (fun f' => ∃ x' y' s, dg x' ∧ dg y' ∧ hz x' w ∧ hz y' w ∧ vl 4294967296 x' 21 * 2 ^ s = vl 4294967296 x 21 ∧ vl 4294967296 y' 21 * 2 ^ s = vl 4294967296 y 21 ∧ (vl 4294967296 x' 21 % 2 = 1 ∨ vl 4294967296 y' 21 % 2 = 1) ∧ f' = va_up (va_up f tp (aJ E 21 (lw x'))) bt (aJ E 21 (lw y')))) A) [.ref lt, .int (nI w)].toArray s (px_rm 2 51).cells (px_rm 2 51).slots A := ⟨_, rfl⟩
  rw [← hQ]
  have hqt : lt ≠ tp := hq.nk ht rfl
  have hqb : lt ≠ bt := hq.nk hb rfl
  refine px_aload_n hC 0 rfl dX2_removeCommonTwos_0 ?_
  refine px_get (C := RX2) (T := TX2) (N := 6) hC hq rfl kkX2_removeCommonTwos_X2 0 (by decide) flX2_removeCommonTwos_9 rfl dX2_removeCommonTwos_1 ?_
  refine px_callSi (st := []) (nn := 1) hC (c_trailZ l E L f tp x ht dx) gX2_removeCommonTwos_X1_trailingZeros rfl (by decide +kernel) (by decide) (Nat.le_of_ble_eq_true rfl) (by decide) rfl rfl dX2_removeCommonTwos_4 (fun z1 f1 h1 => ?_)
  obtain ⟨rfl, t1, rfl, h1⟩ := h1
  refine px_aload_n hC 0 rfl dX2_removeCommonTwos_7 ?_
  refine px_get (C := RX2) (T := TX2) (N := 6) hC hq rfl kkX2_removeCommonTwos_X2 1 (by decide) flX2_removeCommonTwos_15 rfl dX2_removeCommonTwos_8 ?_
  refine px_callSi (st := [.int (nI t1)]) (nn := 1) hC (c_trailZ l E L _ bt y hb dy) gX2_removeCommonTwos_X1_trailingZeros rfl (by decide +kernel) (by decide) (Nat.le_of_ble_eq_true rfl) (by decide) rfl rfl dX2_removeCommonTwos_11 (fun z2 f2 h2 => ?_)
  obtain ⟨rfl, t2, rfl, h2⟩ := h2
  rcases h1 with ⟨h1, -⟩ | ⟨h1, o1, e1⟩
  · exact absurd h1 nx
  rcases h2 with ⟨h2, -⟩ | ⟨h2, o2, e2⟩
  · exact absurd h2 ny
  refine px_mmin hC (by decide +kernel) (by decide +kernel) (by decide +kernel) (by decide +kernel) (by decide) (Nat.le_of_ble_eq_true rfl) (by decide) dX2_removeCommonTwos_14 ?_
  refine px_ei (y := nI (min t1 t2)) (mn_I (by omega) (by omega)) ?_
  generalize hs : min t1 t2 = sft
  refine px_istore_n (lv' := [(0, .ref lt), (1, .int (nI w)), (2, .int (nI (sft)))]) hC [1, 2, 0] dX2_removeCommonTwos_17 (by decide) rfl ?_
  refine px_aload_n hC 0 rfl dX2_removeCommonTwos_18 ?_
  refine px_get (C := RX2) (T := TX2) (N := 6) hC hq rfl kkX2_removeCommonTwos_X2 0 (by decide) flX2_removeCommonTwos_9 rfl dX2_removeCommonTwos_19 ?_
  refine px_iload_n hC 2 rfl dX2_removeCommonTwos_22 ?_
  refine px_iload_n hC 1 rfl dX2_removeCommonTwos_23 ?_
  refine px_callSv (st := []) (nn := 3) hC (c_shr l E L _ tp sft w x ht dx hw (by omega)) gX2_removeCommonTwos_X1_shiftRight rfl (by decide +kernel) (by decide) (Nat.le_of_ble_eq_true rfl) (by decide) rfl rfl dX2_removeCommonTwos_24 (fun f3 h3 => ?_)
  obtain ⟨x', dx', kx, vx, rfl⟩ := h3
  refine px_aload_n hC 0 rfl dX2_removeCommonTwos_27 ?_
  refine px_get (C := RX2) (T := TX2) (N := 6) hC (hq.up hqt) rfl kkX2_removeCommonTwos_X2 1 (by decide) flX2_removeCommonTwos_15 rfl dX2_removeCommonTwos_28 ?_
  refine px_iload_n hC 2 rfl dX2_removeCommonTwos_31 ?_
  refine px_iload_n hC 1 rfl dX2_removeCommonTwos_32 ?_
  refine px_callSv (st := []) (nn := 3) hC (c_shr l E L _ bt sft w y (hb.up (fun h => htb h.symm)) dy hw (by omega)) gX2_removeCommonTwos_X1_shiftRight rfl (by decide +kernel) (by decide) (Nat.le_of_ble_eq_true rfl) (by decide) rfl rfl dX2_removeCommonTwos_33 (fun f4 h4 => ?_)
  obtain ⟨y', dy', ky, vy, rfl⟩ := h4
  have zx' : hz x' w := fun i a1 a2 => by rw [kx i a1]; exact zx i a1 a2
  have zy' : hz y' w := fun i a1 a2 => by rw [ky i a1]; exact zy i a1 a2
  have m1 := tz_min e1 (show sft ≤ t1 by omega)
  have m2 := tz_min e2 (show sft ≤ t2 by omega)
  have vx' : vl 4294967296 x' 21 = vl 4294967296 x 21 / 2 ^ sft := by rw [vl_top hw zx', vx, ← vl_top hw zx]
  have vy' : vl 4294967296 y' 21 = vl 4294967296 y 21 / 2 ^ sft := by rw [vl_top hw zy', vy, ← vl_top hw zy]
  subst hQ
  exact px_vret hC rfl (⟨rfl, rfl, x', y', sft, dx', dy', zx', zy', by rw [vx']; exact m1.2.1, by rw [vy']; exact m2.2.1, by rw [vx', vy']; rcases (show sft = t1 ∨ sft = t2 by omega) with q | q; exact Or.inl (m1.2.2 q); exact Or.inr (m2.2.2 q), rfl⟩) dX2_removeCommonTwos_36
def coI (E : px_E) (L : List Nat) (f g : Nat → va_E) (ot ob p1 p2 : Nat) (x1 x2 : Nat → Nat) (u step G : Nat) : Prop := ((p1 = ot ∧ p2 = ob) ∨ (p1 = ob ∧ p2 = ot)) ∧ px_at L g p1 (aJ E 21 (lw x1)) ∧ px_at L g p2 (aJ E 21 (lw x2)) ∧ dg x1 ∧ dg x2 ∧ hz x1 u ∧ hz x2 u ∧ vl 4294967296 x1 21 % 2 = 1 ∧ vl 4294967296 x2 21 % 2 = 1 ∧ Nat.gcd (vl 4294967296 x1 21) (vl 4294967296 x2 21) = G ∧ vl 4294967296 x1 21 * vl 4294967296 x2 21 < 2 ^ (1344 - step) ∧ ∀ b, b ≠ ot → b ≠ ob → g b = f b
def coQ (E : px_E) (L : List Nat) (f : Nat → va_E) (ot ob G : Nat) (z : Nat) (f' : Nat → va_E) : Prop := (z = ot ∨ z = ob) ∧ (∃ g, dg g ∧ vl 4294967296 g 21 = G ∧ px_at L f' z (aJ E 21 (lw g))) ∧ (∃ r, px_at L f' ot (aJ E 21 r)) ∧ (∃ r, px_at L f' ob (aJ E 21 r)) ∧ ∀ b, b ≠ ot → b ≠ ob → f' b = f b
theorem c_coF (l : Launch) (E : px_E) (L : List Nat) (f : Nat → va_E) (lt w : Nat) {tp bt ot ob : Nat} {nu de : Int64} {x y : Nat → Nat} (hq : px_at L f lt (.inr (1, lF tp bt ot ob nu de))) (ht : px_at L f ot (aJ E 21 (lw x))) (hb : px_at L f ob (aJ E 21 (lw y))) (htb : ot ≠ ob) (dx : dg x) (dy : dg y) (h1 : 1 ≤ w) (hw : w ≤ 21) (zx : hz x w) (zy : hz y w) (nx : vl 4294967296 x 21 % 2 = 1) (ny : vl 4294967296 y 21 % 2 = 1) : px_M l yX2_commonOddFactor wsX2_commonOddFactor (px_rm 3 72) E L f [.ref lt, .int (nI w)] (px_r L (fun z f' => coQ E L f ot ob (Nat.gcd (vl 4294967296 x 21) (vl 4294967296 y 21)) z f')) := by
  refine px_M.of (cc := cX2_commonOddFactor) (maxL := 8) (ret := (some (.array .long))) (lv := [(0, .ref lt), (1, .int (nI w))]) (by decide) rfl (Nat.le_of_ble_eq_true rfl) rfl ?_
  intro p e s m below meth c A hC hnm
  obtain ⟨Q, hQ⟩ : ∃ Q, Q = MQ below (px_Q E (px_r L (fun z f' => coQ E L f ot ob (Nat.gcd (vl 4294967296 x 21) (vl 4294967296 y 21)) z f')) A) [.ref lt, .int (nI w)].toArray s (px_rm 3 72).cells (px_rm 3 72).slots A := ⟨_, rfl⟩
  rw [← hQ]
  generalize hG : Nat.gcd (vl 4294967296 x 21) (vl 4294967296 y 21) = G at hQ ⊢
  have outer : ∀ (d step u p1 p2 : Nat) (x1 x2 : Nat → Nat) (g : Nat → va_E), step + d = 1344 → 1 ≤ u → u ≤ 21 → coI E L f g ot ob p1 p2 x1 x2 u step G → px p l e (px_rm 3 72) s m [.ref lt, .int (nI w)].toArray below meth c 8 E A s.heap L (g) 0 0 Q 16 [(0, .ref lt), (1, .int (nI w)), (2, .ref p1), (3, .ref p2), (4, .int (nI u)), (5, .int (nI step))] [] := by
    intro d
    induction d with
    | zero =>
      intro step u p1 p2 x1 x2 g hd hu1 hu2 hI
      obtain ⟨-, -, -, -, -, -, -, i1, i2, -, i3, -⟩ := hI
      have i4 : 1 * 1 ≤ vl 4294967296 x1 21 * vl 4294967296 x2 21 := Nat.mul_le_mul (by omega) (by omega)
      rw [show 1344 - step = 0 by omega, Nat.pow_zero] at i3
      omega
    | succ d ih =>
      have sub : ∀ (step u p1 p2 : Nat) (x1 x2 : Nat → Nat) (g : Nat → va_E), step + (d + 1) = 1344 → 1 ≤ u → u ≤ 21 → coI E L f g ot ob p1 p2 x1 x2 u step G → vl 4294967296 x2 u < vl 4294967296 x1 u → px p l e (px_rm 3 72) s m [.ref lt, .int (nI w)].toArray below meth c 8 E A s.heap L (g) 0 0 Q 88 [(0, .ref lt), (1, .int (nI w)), (2, .ref p1), (3, .ref p2), (4, .int (nI u)), (5, .int (nI step))] [] := by
        intro step u p1 p2 x1 x2 g hd hu1 hu2 hI hlt
        obtain ⟨ip, iq1, iq2, id1, id2, iz1, iz2, io1, io2, ig, im, ifr⟩ := hI
        have hpp : p2 ≠ p1 := by rcases ip with ⟨a, b⟩ | ⟨a, b⟩ <;> (rw [a, b]; first | exact htb | exact fun h => htb h.symm)
        have t1 := vl_top hu2 iz1
        have t2 := vl_top hu2 iz2
        have l1 := vl_lt (B := 4294967296) (x := x1) (n := u) (fun i hi => id1 i (by omega))
        refine px_aload_n hC 2 rfl dX2_commonOddFactor_88 ?_
        refine px_iconst (v := nI 0) hC (by decide) dX2_commonOddFactor_89 ?_
        refine px_lconst (v := lN 1) hC (by decide) dX2_commonOddFactor_90 ?_
        refine px_aload_n hC 3 rfl dX2_commonOddFactor_91 ?_
        refine px_iload hC 4 rfl dX2_commonOddFactor_92 ?_
        refine px_callSv (st := []) (nn := 5) hC (c_subS l E L g p1 p2 0 1 u x1 x2 iq1 iq2 hpp (by omega) hu2 (by decide) id1 id2) gX2_commonOddFactor_X1_subtractScaled rfl (by decide +kernel) (by decide) (Nat.le_of_ble_eq_true rfl) (by decide) rfl rfl dX2_commonOddFactor_94 (fun f1 h2 => ?_)
        obtain ⟨y1, dy1, ky1, ⟨k1, e1⟩, rfl⟩ := h2
        have l2 := vl_lt (B := 4294967296) (x := y1) (n := u) (fun i hi => dy1 i (by omega))
        rw [Nat.pow_zero, Nat.mul_one, Nat.one_mul, Nat.sub_zero] at e1
        have hk : k1 = 0 := by
          rcases Nat.eq_zero_or_pos k1 with q | q
          · exact q
          · have : 1 * 4294967296 ^ u ≤ k1 * 4294967296 ^ u := Nat.mul_le_mul_right _ q
            omega
        rw [hk, Nat.zero_mul, Nat.add_zero] at e1
        have zy1 : hz y1 u := fun i a1 a2 => by rw [ky1 i (Or.inr a1)]; exact iz1 i a1 a2
        refine px_aload_n hC 2 rfl dX2_commonOddFactor_97 ?_
        refine px_iload hC 4 rfl dX2_commonOddFactor_98 ?_
        refine px_callSv (st := []) (nn := 2) hC (c_rmT l E L _ p1 u y1 iq1.self dy1 hu2 zy1 (by omega)) gX2_commonOddFactor_X2_removeTwos rfl (by decide +kernel) (by decide) (Nat.le_of_ble_eq_true rfl) (by decide) rfl rfl dX2_commonOddFactor_100 (fun f2 h3 => ?_)
        obtain ⟨y2, dy2, zy2, ⟨t, o, e2, e3⟩, rfl⟩ := h3
        rw [px_uu]
        have t3 := vl_top hu2 zy2
        have ht1 : t ≠ 0 := fun q => by rw [q, Nat.pow_zero] at e2; omega
        have h2o : 2 * (2 * o + 1) ≤ vl 4294967296 y1 u := by
          have h5 : 2 ^ 1 ≤ 2 ^ t := Nat.pow_le_pow_right (by decide) (by omega)
          rw [e2]
          exact Nat.mul_le_mul_right _ (by omega)
        refine px_iinc (v := nI (step + 1)) (lv' := [(0, .ref lt), (1, .int (nI w)), (2, .ref p1), (3, .ref p2), (4, .int (nI u)), (5, .int (nI (step + 1)))]) hC 5 [1, 2, 3, 4, 5, 0] dX2_commonOddFactor_103 rfl (nI_1 step) (by decide) rfl ?_
        refine px_goto hC 16 dX2_commonOddFactor_106 (by decide) ?_
        refine ih (step + 1) u p1 p2 y2 x2 _ (by omega) hu1 hu2 ⟨ip, iq1.self, iq2.up hpp, dy2, id2, zy2, iz2, by omega, io2, ?_, ?_, fun b a1 a2 => ?_⟩
        · rw [t3, e3, ← gcd_odd2 (t := t) io2, ← e2, ← ig, t1, t2, show vl 4294967296 y1 u = vl 4294967296 x1 u - vl 4294967296 x2 u by omega]
          exact gcd_sub2 (by omega)
        · have h5 : 2 * (vl 4294967296 y2 21 * vl 4294967296 x2 21) ≤ vl 4294967296 x1 21 * vl 4294967296 x2 21 := by
            rw [← Nat.mul_assoc]
            exact Nat.mul_le_mul_right _ (by omega)
          rw [show 1344 - step = (1344 - (step + 1)) + 1 by omega, Nat.pow_succ] at im
          omega
        · rw [va_up_ne _ _ (by rcases ip with ⟨a, b⟩ | ⟨a, b⟩ <;> (rw [a]; assumption))]
          exact ifr b a1 a2
      have cmp : ∀ (step u p1 p2 : Nat) (x1 x2 : Nat → Nat) (g : Nat → va_E), step + (d + 1) = 1344 → 1 ≤ u → u ≤ 21 → coI E L f g ot ob p1 p2 x1 x2 u step G → px p l e (px_rm 3 72) s m [.ref lt, .int (nI w)].toArray below meth c 8 E A s.heap L (g) 0 0 Q 58 [(0, .ref lt), (1, .int (nI w)), (2, .ref p1), (3, .ref p2), (4, .int (nI u)), (5, .int (nI step))] [] := by
        intro step u p1 p2 x1 x2 g hd hu1 hu2 hI
        have hI0 := hI
        obtain ⟨ip, iq1, iq2, id1, id2, iz1, iz2, io1, io2, ig, im, ifr⟩ := hI
        have t1 := vl_top hu2 iz1
        have t2 := vl_top hu2 iz2
        refine px_aload_n hC 2 rfl dX2_commonOddFactor_58 ?_
        refine px_aload_n hC 3 rfl dX2_commonOddFactor_59 ?_
        refine px_iload hC 4 rfl dX2_commonOddFactor_60 ?_
        refine px_callSi (st := []) (nn := 3) hC (c_cmp l E L g p1 p2 u x1 x2 iq1 iq2 id1 id2 hu2) gX2_commonOddFactor_X1_compare rfl (by decide +kernel) (by decide) (Nat.le_of_ble_eq_true rfl) (by decide) rfl rfl dX2_commonOddFactor_62 (fun z f1 hz1 => ?_)
        obtain ⟨rfl, hz1⟩ := hz1
        rcases hz1 with ⟨rfl, h5⟩ | ⟨rfl, h5⟩ | ⟨rfl, h5⟩
        · refine px_istore (lv' := [(0, .ref lt), (1, .int (nI w)), (2, .ref p1), (3, .ref p2), (4, .int (nI u)), (5, .int (nI step)), (6, .int (nI 0))]) hC [1, 2, 3, 4, 5, 6, 0] dX2_commonOddFactor_65 (by decide) rfl ?_
          refine px_iload hC 6 rfl dX2_commonOddFactor_67 ?_
          refine px_if_ne hC 75 dX2_commonOddFactor_69 (by decide) (fun q9 => (q9 (by decide)).elim) (fun _ => ?_)
          refine px_goto hC 109 dX2_commonOddFactor_72 (by decide) ?_
          refine px_aload_n hC 2 rfl dX2_commonOddFactor_109 ?_
          subst hQ
          exact px_aret hC rfl (Or.inr ⟨_, rfl⟩) (⟨_, rfl, rfl, by rcases ip with ⟨a, b⟩ | ⟨a, b⟩; exact Or.inl a; exact Or.inr a, ⟨x1, id1, by rw [← ig, t1, t2, ← h5, Nat.gcd_self], iq1⟩, by rcases ip with ⟨a, b⟩ | ⟨a, b⟩; exact ⟨_, a ▸ iq1⟩; exact ⟨_, b ▸ iq2⟩, by rcases ip with ⟨a, b⟩ | ⟨a, b⟩; exact ⟨_, b ▸ iq2⟩; exact ⟨_, a ▸ iq1⟩, ifr⟩) dX2_commonOddFactor_110
        · refine px_istore (lv' := [(0, .ref lt), (1, .int (nI w)), (2, .ref p1), (3, .ref p2), (4, .int (nI u)), (5, .int (nI step)), (6, .int (nI 1))]) hC [1, 2, 3, 4, 5, 6, 0] dX2_commonOddFactor_65 (by decide) rfl ?_
          refine px_iload hC 6 rfl dX2_commonOddFactor_67 ?_
          refine px_if_ne hC 75 dX2_commonOddFactor_69 (by decide) (fun _ => ?_) (fun q9 => absurd q9 (by decide))
          refine px_iload hC 6 rfl dX2_commonOddFactor_75 ?_
          refine px_if_ge hC 88 dX2_commonOddFactor_77 (by decide) (fun _ => ?_) (fun q9 => (q9 (by decide)).elim)
          refine px_lv (lv2 := [(0, .ref lt), (1, .int (nI w)), (2, .ref p1), (3, .ref p2), (4, .int (nI u)), (5, .int (nI step))]) [0, 1, 2, 3, 4, 5] rfl ?_
          exact sub step u p1 p2 x1 x2 _ hd hu1 hu2 hI0 h5
        · refine px_istore (lv' := [(0, .ref lt), (1, .int (nI w)), (2, .ref p1), (3, .ref p2), (4, .int (nI u)), (5, .int (nI step)), (6, .int (-1))]) hC [1, 2, 3, 4, 5, 6, 0] dX2_commonOddFactor_65 (by decide) rfl ?_
          refine px_iload hC 6 rfl dX2_commonOddFactor_67 ?_
          refine px_if_ne hC 75 dX2_commonOddFactor_69 (by decide) (fun _ => ?_) (fun q9 => absurd q9 (by decide))
          refine px_iload hC 6 rfl dX2_commonOddFactor_75 ?_
          refine px_if_ge hC 88 dX2_commonOddFactor_77 (by decide) (fun q9 => absurd q9 (by decide)) (fun _ => ?_)
          refine px_aload_n hC 2 rfl dX2_commonOddFactor_80 ?_
          refine px_astore (lv' := [(0, .ref lt), (1, .int (nI w)), (2, .ref p1), (3, .ref p2), (4, .int (nI u)), (5, .int (nI step)), (6, .int (-1)), (7, .ref p1)]) hC [1, 2, 3, 4, 5, 6, 7, 0] dX2_commonOddFactor_81 (by decide) rfl ?_
          refine px_aload_n hC 3 rfl dX2_commonOddFactor_83 ?_
          refine px_astore_n (lv' := [(0, .ref lt), (1, .int (nI w)), (2, .ref p2), (3, .ref p2), (4, .int (nI u)), (5, .int (nI step)), (6, .int (-1)), (7, .ref p1)]) hC [1, 2, 0, 3, 4, 5, 6, 7] dX2_commonOddFactor_84 (by decide) rfl ?_
          refine px_aload hC 7 rfl dX2_commonOddFactor_85 ?_
          refine px_astore_n (lv' := [(0, .ref lt), (1, .int (nI w)), (2, .ref p2), (3, .ref p1), (4, .int (nI u)), (5, .int (nI step)), (6, .int (-1)), (7, .ref p1)]) hC [1, 2, 3, 0, 4, 5, 6, 7] dX2_commonOddFactor_87 (by decide) rfl ?_
          refine px_lv (lv2 := [(0, .ref lt), (1, .int (nI w)), (2, .ref p2), (3, .ref p1), (4, .int (nI u)), (5, .int (nI step))]) [0, 1, 2, 3, 4, 5] rfl ?_
          exact sub step u p2 p1 x2 x1 _ hd hu1 hu2 ⟨ip.symm.imp (fun h => ⟨h.2, h.1⟩) (fun h => ⟨h.2, h.1⟩), iq2, iq1, id2, id1, iz2, iz1, io2, io1, by rw [Nat.gcd_comm]; exact ig, by rw [Nat.mul_comm]; exact im, ifr⟩ h5
      intro step u p1 p2 x1 x2 g hd hu1 hu2 hI
      have inner : ∀ (v u : Nat), u = v + 1 → u ≤ 21 → coI E L f g ot ob p1 p2 x1 x2 u step G → px p l e (px_rm 3 72) s m [.ref lt, .int (nI w)].toArray below meth c 8 E A s.heap L (g) 0 0 Q 24 [(0, .ref lt), (1, .int (nI w)), (2, .ref p1), (3, .ref p2), (4, .int (nI u)), (5, .int (nI step))] [] := by
        intro v
        induction v with
        | zero =>
          intro u hu hu2 hI
          refine px_iload hC 4 rfl dX2_commonOddFactor_24 ?_
          refine px_iconst (v := nI 1) hC (by decide) dX2_commonOddFactor_26 ?_
          refine px_icmp_le hC 58 dX2_commonOddFactor_27 (by decide) (fun _ => ?_) (fun q9 => (q9 (nI_le (by omega) (by omega))).elim)
          exact cmp step u p1 p2 x1 x2 g hd (by omega) hu2 hI
        | succ v ihv =>
          intro u hu hu2 hI
          have hI0 := hI
          obtain ⟨ip, iq1, iq2, id1, id2, iz1, iz2, io1, io2, ig, im, ifr⟩ := hI
          have b1 := id1 (u - 1) (by omega)
          have b2 := id2 (u - 1) (by omega)
          refine px_iload hC 4 rfl dX2_commonOddFactor_24 ?_
          refine px_iconst (v := nI 1) hC (by decide) dX2_commonOddFactor_26 ?_
          refine px_icmp_le hC 58 dX2_commonOddFactor_27 (by decide) (fun q9 => absurd q9 (nI_ge (by omega) (by omega))) (fun _ => ?_)
          refine px_aload_n hC 2 rfl dX2_commonOddFactor_30 ?_
          refine px_iload hC 4 rfl dX2_commonOddFactor_31 ?_
          refine px_iconst (v := nI 1) hC (by decide) dX2_commonOddFactor_33 ?_
          refine px_isub hC dX2_commonOddFactor_34 ?_
          refine px_ei (y := nI (u - 1)) (pk_sub (by omega)) ?_
          refine px_lald hC iq1 (by omega) (by first | decide | assumption | omega) dX2_commonOddFactor_35 ?_
          refine px_lconst (v := lN 0) hC (by decide) dX2_commonOddFactor_36 ?_
          refine px_lcmp hC dX2_commonOddFactor_37 ?_
          by_cases c1 : x1 (u - 1) = 0
          · refine px_if_ne hC 58 dX2_commonOddFactor_38 (by decide) (fun q9 => (q9 ((lz_c0 (by omega) (by omega)).mpr c1)).elim) (fun _ => ?_)
            refine px_aload_n hC 3 rfl dX2_commonOddFactor_41 ?_
            refine px_iload hC 4 rfl dX2_commonOddFactor_42 ?_
            refine px_iconst (v := nI 1) hC (by decide) dX2_commonOddFactor_44 ?_
            refine px_isub hC dX2_commonOddFactor_45 ?_
            refine px_ei (y := nI (u - 1)) (pk_sub (by omega)) ?_
            refine px_lald hC iq2 (by omega) (by first | decide | assumption | omega) dX2_commonOddFactor_46 ?_
            refine px_lconst (v := lN 0) hC (by decide) dX2_commonOddFactor_47 ?_
            refine px_lcmp hC dX2_commonOddFactor_48 ?_
            by_cases c2 : x2 (u - 1) = 0
            · refine px_if_ne hC 58 dX2_commonOddFactor_49 (by decide) (fun q9 => (q9 ((lz_c0 (by omega) (by omega)).mpr c2)).elim) (fun _ => ?_)
              refine px_iinc (v := nI (u - 1)) (lv' := [(0, .ref lt), (1, .int (nI w)), (2, .ref p1), (3, .ref p2), (4, .int (nI (u - 1))), (5, .int (nI step))]) hC 4 [1, 2, 3, 4, 0, 5] dX2_commonOddFactor_52 rfl (by rw [show u = (u - 1) + 1 by omega]; exact pk_m1 (u - 1)) (by decide) rfl ?_
              refine px_goto hC 24 dX2_commonOddFactor_55 (by decide) ?_
              exact ihv (u - 1) (by omega) (by omega) ⟨ip, iq1, iq2, id1, id2, fun i a1 a2 => by
                by_cases q : i = u - 1
                · rw [q]; exact c1
                · exact iz1 i (by omega) a2, fun i a1 a2 => by
                by_cases q : i = u - 1
                · rw [q]; exact c2
                · exact iz2 i (by omega) a2, io1, io2, ig, im, ifr⟩
            · refine px_if_ne hC 58 dX2_commonOddFactor_49 (by decide) (fun _ => ?_) (fun q9 => absurd q9 (fun q => c2 ((lz_c0 (by omega) (by omega)).mp q)))
              exact cmp step u p1 p2 x1 x2 g hd (by omega) hu2 hI0
          · refine px_if_ne hC 58 dX2_commonOddFactor_38 (by decide) (fun _ => ?_) (fun q9 => absurd q9 (fun q => c1 ((lz_c0 (by omega) (by omega)).mp q)))
            exact cmp step u p1 p2 x1 x2 g hd (by omega) hu2 hI0
      refine px_iload hC 5 rfl dX2_commonOddFactor_16 ?_
      refine px_sipush (v := nI 1344) hC (by decide) dX2_commonOddFactor_18 ?_
      refine px_icmp_ge hC 109 dX2_commonOddFactor_21 (by decide) (fun q9 => absurd q9 (nI_ge (by omega) (by omega))) (fun _ => ?_)
      exact inner (u - 1) u (by omega) hu2 hI
  refine px_aload_n hC 0 rfl dX2_commonOddFactor_0 ?_
  refine px_get (C := RX2) (T := TX2) (N := 6) hC hq rfl kkX2_commonOddFactor_X2 2 (by decide) flX2_commonOddFactor_18 rfl dX2_commonOddFactor_1 ?_
  refine px_astore_n (lv' := [(0, .ref lt), (1, .int (nI w)), (2, .ref ot)]) hC [1, 2, 0] dX2_commonOddFactor_4 (by decide) rfl ?_
  refine px_aload_n hC 0 rfl dX2_commonOddFactor_5 ?_
  refine px_get (C := RX2) (T := TX2) (N := 6) hC hq rfl kkX2_commonOddFactor_X2 3 (by decide) flX2_commonOddFactor_21 rfl dX2_commonOddFactor_6 ?_
  refine px_astore_n (lv' := [(0, .ref lt), (1, .int (nI w)), (2, .ref ot), (3, .ref ob)]) hC [1, 2, 3, 0] dX2_commonOddFactor_9 (by decide) rfl ?_
  refine px_iload_n hC 1 rfl dX2_commonOddFactor_10 ?_
  refine px_istore (lv' := [(0, .ref lt), (1, .int (nI w)), (2, .ref ot), (3, .ref ob), (4, .int (nI w))]) hC [1, 2, 3, 4, 0] dX2_commonOddFactor_11 (by decide) rfl ?_
  refine px_iconst (v := nI 0) hC (by decide) dX2_commonOddFactor_13 ?_
  refine px_istore (lv' := [(0, .ref lt), (1, .int (nI w)), (2, .ref ot), (3, .ref ob), (4, .int (nI w)), (5, .int (nI 0))]) hC [1, 2, 3, 4, 5, 0] dX2_commonOddFactor_14 (by decide) rfl ?_
  have lx := vl_lt dx
  have ly := vl_lt dy
  refine outer 1344 0 w ot ob x y f (by omega) h1 hw ⟨Or.inl ⟨rfl, rfl⟩, ht, hb, dx, dy, zx, zy, nx, ny, hG, ?_, fun b _ _ => rfl⟩
  have h5 : vl 4294967296 x 21 * vl 4294967296 y 21 < 4294967296 ^ 21 * 4294967296 ^ 21 := by
    have h6 : vl 4294967296 x 21 * vl 4294967296 y 21 ≤ vl 4294967296 x 21 * 4294967296 ^ 21 := Nat.mul_le_mul_left _ (by omega)
    have h7 : (vl 4294967296 x 21 + 1) * 4294967296 ^ 21 ≤ 4294967296 ^ 21 * 4294967296 ^ 21 := Nat.mul_le_mul_right _ lx
    have h8 : 0 < 4294967296 ^ 21 := Nat.pow_pos (by decide)
    rw [Nat.add_mul, Nat.one_mul] at h7
    omega
  rw [show 1344 - 0 = 672 + 672 from rfl, Nat.pow_add, show 2 ^ 672 = 4294967296 ^ 21 from (pow_BB 21).symm]
  exact h5
