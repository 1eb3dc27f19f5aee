theorem rp_two {W : Int} {y1 y2 n1 a1 b1 c1 k1 k2 : Nat} {pv va vb vc : Int} (e1 : ((y1 + n1 * a1 : Nat) : Int) = k1 * W) (e2 : ((y2 + b1 * c1 : Nat) : Int) = y1 + k2 * W) (h1 : cg W n1 (-pv)) (h2 : cg W a1 va) (h3 : cg W b1 vb) (h4 : cg W c1 vc) : cg W y2 (pv * va - vb * vc) := by
  have h5 := cg_m h1 h2
  have h6 := cg_m h3 h4
  rw [Int.natCast_add, Int.natCast_mul] at e1 e2
  have h7 : (y2 : Int) = -((n1 : Int) * a1) + -((b1 : Int) * c1) + (k1 + k2) * W := by grind
  have h8 := cg_a (cg_n h5) (cg_n h6)
  refine cg_t ⟨k1 + k2, h7⟩ (cg_t h8 (cg_e (by grind)))
theorem rp_odd {d d' : Int} {t : Nat} {V : Nat} (hd : d = ((2 ^ t : Nat) : Int) * d') (ht : t ≤ 672) (h : cg ((4294967296 ^ 21 : Nat) : Int) ((V : Int) * ((2 ^ t : Nat) : Int)) d) : cg ((2 ^ (672 - t) : Nat) : Int) V d' := by
  obtain ⟨k, h⟩ := h
  have e : 4294967296 ^ 21 = 2 ^ t * 2 ^ (672 - t) := by rw [pow_BB, ← Nat.pow_add]; congr 1; omega
  have hp : (0 : Int) < ((2 ^ t : Nat) : Int) := by have := Nat.pow_pos (n := t) (show 0 < 2 by decide); omega
  rw [e, Int.natCast_mul, hd] at h
  generalize ((2 ^ t : Nat) : Int) = T at h hp
  generalize ((2 ^ (672 - t) : Nat) : Int) = R at h ⊢
  have h4 : T * (V : Int) = T * (d' + k * R) := by grind
  exact ⟨k, Int.eq_of_mul_eq_mul_left (by omega) h4⟩
theorem cg_2 {a b : Int} {u w : Nat} (h : u ≤ w) (hc : cg ((2 ^ w : Nat) : Int) a b) : cg ((2 ^ u : Nat) : Int) a b := cg_p h hc
theorem mn_I {a b : Nat} (ha : a < 2 ^ 31) (hb : b < 2 ^ 31) : (if nI b < nI a then nI b else nI a) = nI (min a b) := by
  by_cases h : b < a
  · rw [if_pos ((nI_ltI hb ha).mpr h), Nat.min_eq_right (by omega)]
  · rw [if_neg (fun h2 => h ((nI_ltI hb ha).mp h2)), Nat.min_eq_left (by omega)]
theorem flX0_replace_25 : Cond.fieldLink RX0 25 "RowReduction$Elimination" "work" "[J" ∈ wsX0_replace := by decide +kernel
theorem kkX0_replace_X0 : ∀ w ∈ wsX00, w ∈ wsX0_replace := fun _ h => List.mem_cons_of_mem _ (List.mem_append_right _ h)
theorem flX0_replace_18 : Cond.fieldLink RX0 18 "RowReduction$Elimination" "negatedPivot" "[J" ∈ wsX0_replace := by decide +kernel
theorem flX0_replace_45 : Cond.fieldLink RX0 45 "RowReduction$Elimination" "workWidth" "I" ∈ wsX0_replace := by decide +kernel
theorem flX0_replace_35 : Cond.fieldLink RX0 35 "RowReduction$Elimination" "divisorTwos" "I" ∈ wsX0_replace := by decide +kernel
theorem flX0_replace_22 : Cond.fieldLink RX0 22 "RowReduction$Elimination" "oddDivisor" "[J" ∈ wsX0_replace := by decide +kernel
theorem flX0_replace_38 : Cond.fieldLink RX0 38 "RowReduction$Elimination" "divisorInverse" "J" ∈ wsX0_replace := by decide +kernel
theorem flX0_replace_42 : Cond.fieldLink RX0 42 "RowReduction$Elimination" "minorWidth" "I" ∈ wsX0_replace := by decide +kernel
theorem flX0_prepareStep_22 : Cond.fieldLink RX0 22 "RowReduction$Elimination" "oddDivisor" "[J" ∈ wsX0_prepareStep := by decide +kernel
theorem kkX0_prepareStep_X0 : ∀ w ∈ wsX00, w ∈ wsX0_prepareStep := fun _ h => List.mem_cons_of_mem _ (List.mem_append_right _ h)
theorem flX0_prepareStep_35 : Cond.fieldLink RX0 35 "RowReduction$Elimination" "divisorTwos" "I" ∈ wsX0_prepareStep := by decide +kernel
theorem flX0_prepareStep_38 : Cond.fieldLink RX0 38 "RowReduction$Elimination" "divisorInverse" "J" ∈ wsX0_prepareStep := by decide +kernel
theorem flX0_prepareStep_28 : Cond.fieldLink RX0 28 "RowReduction$Elimination" "size" "I" ∈ wsX0_prepareStep := by decide +kernel
theorem flX0_prepareStep_42 : Cond.fieldLink RX0 42 "RowReduction$Elimination" "minorWidth" "I" ∈ wsX0_prepareStep := by decide +kernel
theorem flX0_prepareStep_45 : Cond.fieldLink RX0 45 "RowReduction$Elimination" "workWidth" "I" ∈ wsX0_prepareStep := by decide +kernel
theorem flX0_prepareStep_18 : Cond.fieldLink RX0 18 "RowReduction$Elimination" "negatedPivot" "[J" ∈ wsX0_prepareStep := by decide +kernel
theorem c_repl (l : Launch) (E : px_E) (L : List Nat) (f : Nat → va_E) (q a b b2 : Nat) {cs np od wk : Nat} {sz eb : Int32} {t iv mw ww : Nat} {r : Nat → Int64} {nx ox : Nat → Nat} {pv d d' va vb vc v : Int} (hq : px_at L f q (.inr (0, eF cs np od wk sz eb (nI t) (lN iv) (nI mw) (nI ww)))) (hwk : px_at L f wk (aJ E 21 r)) (hnp : px_at L f np (aJ E 21 (lw nx))) (hod : px_at L f od (aJ E 21 (lw ox))) (hdn : dg nx) (hdo : dg ox) (ha : cR E L f a va) (hb : cR E L f b vb) (hc2 : cR E L f b2 vc) (haw : a ≠ wk) (hbw : b ≠ wk) (hcw : b2 ≠ wk) (hnw : np ≠ wk) (how : od ≠ wk) (hp : cg ((4294967296 ^ 21 : Nat) : Int) (vl 4294967296 nx 21) (-pv)) (ho : cg ((4294967296 ^ 21 : Nat) : Int) ((vl 4294967296 ox 21 : Int) * ((2 ^ t : Nat) : Int)) d) (hiv : iv < 4294967296) (hi1 : iv * ox 0 % 4294967296 = 1) (hd : d = ((2 ^ t : Nat) : Int) * d') (hdo' : d' % 2 = 1) (hZ : pv * va - vb * vc = d * v) (h1 : 1 ≤ mw) (hww : ww = mw + t / 32 + 1) (hw21 : ww ≤ 21) (ht : t + 32 * mw ≤ 672) (hv : -((4294967296 ^ mw : Nat) : Int) < 2 * v ∧ 2 * v < ((4294967296 ^ mw : Nat) : Int)) : px_M l yX0_replace wsX0_replace (px_rm 3 69) E L f [.ref q, .ref a, .ref b, .ref b2] (px_v L (fun f' => ∃ y r', dg y ∧ sg y = v ∧ f' = va_up (va_up f wk (aJ E 21 r')) a (aJ E 21 (lw y)))) := by
  refine px_M.of (cc := cX0_replace) (maxL := 4) (ret := none) (lv := [(0, .ref q), (1, .ref a), (2, .ref b), (3, .ref b2)]) (by decide) rfl (Nat.le_of_ble_eq_true rfl) rfl ?_
  intro p e s m below meth c A hC hnm
  obtain ⟨Q, hQ⟩ : ∃ Q, Q = MQ below (px_Q E (px_v L (fun f' => ∃ y r', dg y ∧ sg y = v ∧ f' = va_up (va_up f wk (aJ E 21 r')) a (aJ E 21 (lw y)))) A) [.ref q, .ref a, .ref b, .ref b2].toArray s (px_rm 3 69).cells (px_rm 3 69).slots A := ⟨_, rfl⟩
  rw [← hQ]
  obtain ⟨xa, hxa, dxa, sxa⟩ := ha
  obtain ⟨xb, hxb, dxb, sxb⟩ := hb
  obtain ⟨xc, hxc, dxc, sxc⟩ := hc2
  have hqw : q ≠ wk := hq.nk hwk rfl
  refine px_aload_n hC 0 rfl dX0_replace_0 ?_
  refine px_get (C := RX0) (T := TX0) (N := 10) hC hq rfl kkX0_replace_X0 3 (by decide) flX0_replace_25 rfl dX0_replace_1 ?_
  refine px_lconst (v := lN 0) hC (by decide) dX0_replace_4 ?_
  refine px_callSv (st := []) (nn := 2) hC (c_fillJ l E L f wk 21 r (lN 0) hwk (by decide)) gX0_replace_J7_fill_d0a16 rfl (by decide +kernel) (by decide) (Nat.le_of_ble_eq_true rfl) (by decide) rfl rfl dX0_replace_5 (fun f1 h2 => ?_)
  subst h2
  refine px_aload_n hC 0 rfl dX0_replace_8 ?_
  refine px_get (C := RX0) (T := TX0) (N := 10) hC (hq.up hqw) rfl kkX0_replace_X0 3 (by decide) flX0_replace_25 rfl dX0_replace_9 ?_
  refine px_aload_n hC 0 rfl dX0_replace_12 ?_
  refine px_get (C := RX0) (T := TX0) (N := 10) hC (hq.up hqw) rfl kkX0_replace_X0 1 (by decide) flX0_replace_18 rfl dX0_replace_13 ?_
  refine px_aload_n hC 1 rfl dX0_replace_16 ?_
  refine px_aload_n hC 0 rfl dX0_replace_17 ?_
  refine px_get (C := RX0) (T := TX0) (N := 10) hC (hq.up hqw) rfl kkX0_replace_X0 9 (by decide) flX0_replace_45 rfl dX0_replace_18 ?_
  refine px_callSv (st := []) (nn := 4) hC (c_subP l E L _ wk np a ww (fun _ => 0) nx xa hwk.self (hnp.up hnw) (hxa.up haw) hnw haw hw21 (fun _ _ => by show 0 < 4294967296; decide) hdn dxa) gX0_replace_X1_subtractProduct rfl (by decide +kernel) (by decide) (Nat.le_of_ble_eq_true rfl) (by decide) rfl rfl dX0_replace_21 (fun f1 h2 => ?_)
  obtain ⟨y1, dy1, ⟨k1, e1⟩, rfl⟩ := h2
  rw [px_uu]
  refine px_aload_n hC 0 rfl dX0_replace_24 ?_
  refine px_get (C := RX0) (T := TX0) (N := 10) hC (hq.up hqw) rfl kkX0_replace_X0 3 (by decide) flX0_replace_25 rfl dX0_replace_25 ?_
  refine px_aload_n hC 2 rfl dX0_replace_28 ?_
  refine px_aload_n hC 3 rfl dX0_replace_29 ?_
  refine px_aload_n hC 0 rfl dX0_replace_30 ?_
  refine px_get (C := RX0) (T := TX0) (N := 10) hC (hq.up hqw) rfl kkX0_replace_X0 9 (by decide) flX0_replace_45 rfl dX0_replace_31 ?_
  refine px_callSv (st := []) (nn := 4) hC (c_subP l E L _ wk b b2 ww y1 xb xc hwk.self (hxb.up hbw) (hxc.up hcw) hbw hcw hw21 dy1 dxb dxc) gX0_replace_X1_subtractProduct rfl (by decide +kernel) (by decide) (Nat.le_of_ble_eq_true rfl) (by decide) rfl rfl dX0_replace_34 (fun f1 h2 => ?_)
  obtain ⟨y2, dy2, ⟨k2, e2⟩, rfl⟩ := h2
  rw [px_uu]
  refine px_aload_n hC 0 rfl dX0_replace_37 ?_
  refine px_get (C := RX0) (T := TX0) (N := 10) hC (hq.up hqw) rfl kkX0_replace_X0 3 (by decide) flX0_replace_25 rfl dX0_replace_38 ?_
  refine px_aload_n hC 0 rfl dX0_replace_41 ?_
  refine px_get (C := RX0) (T := TX0) (N := 10) hC (hq.up hqw) rfl kkX0_replace_X0 6 (by decide) flX0_replace_35 rfl dX0_replace_42 ?_
  refine px_aload_n hC 0 rfl dX0_replace_45 ?_
  refine px_get (C := RX0) (T := TX0) (N := 10) hC (hq.up hqw) rfl kkX0_replace_X0 9 (by decide) flX0_replace_45 rfl dX0_replace_46 ?_
  refine px_callSv (st := []) (nn := 3) hC (c_shr l E L _ wk t ww y2 hwk.self dy2 hw21 (by omega)) gX0_replace_X1_shiftRight rfl (by decide +kernel) (by decide) (Nat.le_of_ble_eq_true rfl) (by decide) rfl rfl dX0_replace_49 (fun f1 h2 => ?_)
  obtain ⟨y3, dy3, -, e3, rfl⟩ := h2
  rw [px_uu]
  refine px_aload_n hC 0 rfl dX0_replace_52 ?_
  refine px_get (C := RX0) (T := TX0) (N := 10) hC (hq.up hqw) rfl kkX0_replace_X0 3 (by decide) flX0_replace_25 rfl dX0_replace_53 ?_
  refine px_aload_n hC 0 rfl dX0_replace_56 ?_
  refine px_get (C := RX0) (T := TX0) (N := 10) hC (hq.up hqw) rfl kkX0_replace_X0 2 (by decide) flX0_replace_22 rfl dX0_replace_57 ?_
  refine px_aload_n hC 0 rfl dX0_replace_60 ?_
  refine px_get (C := RX0) (T := TX0) (N := 10) hC (hq.up hqw) rfl kkX0_replace_X0 7 (by decide) flX0_replace_38 rfl dX0_replace_61 ?_
  refine px_aload_n hC 0 rfl dX0_replace_64 ?_
  refine px_get (C := RX0) (T := TX0) (N := 10) hC (hq.up hqw) rfl kkX0_replace_X0 8 (by decide) flX0_replace_42 rfl dX0_replace_65 ?_
  refine px_callSv (st := []) (nn := 4) hC (c_divE l E L _ wk od iv mw y3 ox hwk.self (hod.up how) how (by omega) hiv hi1 dy3 hdo) gX0_replace_X1_divideEvenly rfl (by decide +kernel) (by decide) (Nat.le_of_ble_eq_true rfl) (by decide) rfl rfl dX0_replace_68 (fun f1 h2 => ?_)
  obtain ⟨y4, dy4, -, e4, rfl⟩ := h2
  rw [px_uu]
  refine px_aload_n hC 0 rfl dX0_replace_71 ?_
  refine px_get (C := RX0) (T := TX0) (N := 10) hC (hq.up hqw) rfl kkX0_replace_X0 3 (by decide) flX0_replace_25 rfl dX0_replace_72 ?_
  refine px_aload_n hC 0 rfl dX0_replace_75 ?_
  refine px_get (C := RX0) (T := TX0) (N := 10) hC (hq.up hqw) rfl kkX0_replace_X0 8 (by decide) flX0_replace_42 rfl dX0_replace_76 ?_
  refine px_aload_n hC 1 rfl dX0_replace_79 ?_
  refine px_callSv (st := []) (nn := 3) hC (c_copyW l E L _ wk a mw y4 (lw xa) hwk.self (hxa.up haw) (fun h => haw h.symm) h1 (by omega) dy4) gX0_replace_X1_copyWidened rfl (by decide +kernel) (by decide) (Nat.le_of_ble_eq_true rfl) (by decide) rfl rfl dX0_replace_80 (fun f1 h2 => ?_)
  subst h2
  have g1 : cg ((4294967296 ^ ww : Nat) : Int) (vl 4294967296 y2 ww) (d * v) := by
    rw [← hZ]
    rw [vl_0, Nat.zero_add] at e1
    exact rp_two (by exact_mod_cast e1) (by exact_mod_cast e2) (cg_t (cg_s (vl_low hw21)) (cg_p hw21 hp)) (by rw [← sxa]; exact sg_low hw21) (by rw [← sxb]; exact sg_low hw21) (by rw [← sxc]; exact sg_low hw21)
  have g2 := rp_shift (Z := d * v) (d' := d') (v := v) (t := t) (by rw [hd]) (by omega) g1 e3
  have g3 : cg ((2 ^ (32 * mw) : Nat) : Int) (vl 4294967296 y3 mw) (d' * v) := by
    have g4 := cg_2 (show 32 * mw ≤ 32 * ww - t by omega) g2
    have g5 := vl_low (x := y3) (show mw ≤ ww by omega)
    rw [pow_BB] at g5
    exact cg_t (cg_s g5) g4
  have g6 : cg ((2 ^ (32 * mw) : Nat) : Int) (vl 4294967296 ox mw) d' := by
    have g4 := cg_2 (show 32 * mw ≤ 672 - t by omega) (rp_odd hd (by omega) ho)
    have g5 := vl_low (x := ox) (show mw ≤ 21 by omega)
    rw [pow_BB] at g5
    exact cg_t (cg_s g5) g4
  have g7 : cg ((4294967296 ^ mw : Nat) : Int) (vl 4294967296 y4 mw) v := by
    rw [pow_BB] at e4 ⊢
    obtain ⟨k4, e4⟩ := e4
    refine cg_cancel hdo' ?_
    exact cg_t (cg_m (cg_r _ _) (cg_s g6)) (cg_t (cg_s ⟨k4, e4⟩) g3)
  subst hQ
  exact px_vret hC rfl (⟨rfl, rfl, wx y4 mw, lw y4, wx_dg dy4, wx_sg h1 (by omega) dy4 g7 hv, rfl⟩) dX0_replace_83
theorem ps_odd {x o : Nat → Nat} {t ov : Nat} {d : Int} (ht : t < 672) (hx : vl 4294967296 x 21 = 2 ^ t * (2 * ov + 1)) (hs : sg x = d) (ho : vl 4294967296 o 21 = vl 4294967296 x 21 / 2 ^ t) (hdo : dg o) : o 0 % 2 = 1 ∧ cg ((4294967296 ^ 21 : Nat) : Int) ((vl 4294967296 o 21 : Int) * ((2 ^ t : Nat) : Int)) d ∧ ∃ d' : Int, d = ((2 ^ t : Nat) : Int) * d' ∧ d' % 2 = 1 := by
  have hp : 0 < 2 ^ t := Nat.pow_pos (by decide)
  have e : vl 4294967296 o 21 = 2 * ov + 1 := by rw [ho, hx, Nat.mul_div_cancel_left _ hp]
  have e1 : vl 4294967296 o 21 = o 0 + 4294967296 * vl 4294967296 (fun i => o (1 + i)) 20 := vl_s1 4294967296 o 20
  refine ⟨by omega, ?_, ?_⟩
  · have e2 : ((vl 4294967296 o 21 : Nat) : Int) * ((2 ^ t : Nat) : Int) = vl 4294967296 x 21 := by rw [e, hx]; rw [Int.natCast_mul, Int.mul_comm]
    rw [e2, ← hs]
    exact sg_cg
  · obtain ⟨k, hk⟩ := cg_s (sg_cg (x := x))
    rw [hs, hx] at hk
    have e3 : 4294967296 ^ 21 = 2 ^ t * (2 * 2 ^ (671 - t)) := by
      rw [pow_BB, show 2 * 2 ^ (671 - t) = 2 ^ (672 - t) from by rw [Nat.mul_comm, ← Nat.pow_succ]; congr 1; omega, ← Nat.pow_add]; congr 1; omega
    rw [e3, Int.natCast_mul, Int.natCast_mul, Int.natCast_mul] at hk
    refine ⟨((2 * ov + 1 : Nat) : Int) + k * (((2 : Nat) : Int) * ((2 ^ (671 - t) : Nat) : Int)), by rw [hk]; grind, ?_⟩
    rw [show ((2 * ov + 1 : Nat) : Int) + k * (((2 : Nat) : Int) * ((2 ^ (671 - t) : Nat) : Int)) = 2 * ((ov : Int) + k * ((2 ^ (671 - t) : Nat) : Int)) + 1 from by push_cast; grind]
    omega
def mwd (n k eb : Nat) : Nat := (min (k + 2) n * eb + 23) / 32 + 1
theorem c_prep (l : Launch) (E : px_E) (L : List Nat) (f : Nat → va_E) (q k n eb : Nat) {cs np od wk : Nat} {tw : Int32} {iv0 : Int64} {mw0 ww0 : Int32} {cr : Nat → Option Nat} {r1 r2 : Nat → Int64} {ap ad : Nat} {pv d : Int} (hq : px_at L f q (.inr (0, eF cs np od wk (nI n) (nI eb) tw iv0 mw0 ww0))) (hc : px_at L f cs (aJJ E 110 cr)) (hnp : px_at L f np (aJ E 21 r1)) (hod : px_at L f od (aJ E 21 r2)) (hno : np ≠ od) (hn : n ≤ 10) (he : eb ≤ 31) (hk : k < n) (hpc : cr (k * 11 + k) = some ap) (hpv : cR E L f ap pv) (hapn : ap ≠ np) (hdc : k ≠ 0 → cr ((k - 1) * 11 + (k - 1)) = some ad ∧ cR E L f ad d ∧ ad ≠ np) (hd0 : k = 0 → d = 1) (hdne : d ≠ 0) : px_M l yX0_prepareStep wsX0_prepareStep (px_rm 2 53) E L f [.ref q, .int (nI k)] (px_v L (fun f' => ∃ nx ox t iv, dg nx ∧ dg ox ∧ cg ((4294967296 ^ 21 : Nat) : Int) (vl 4294967296 nx 21) (-pv) ∧ cg ((4294967296 ^ 21 : Nat) : Int) ((vl 4294967296 ox 21 : Int) * ((2 ^ t : Nat) : Int)) d ∧ iv < 4294967296 ∧ iv * ox 0 % 4294967296 = 1 ∧ (∃ d' : Int, d = ((2 ^ t : Nat) : Int) * d' ∧ d' % 2 = 1) ∧ t < 672 ∧ f' = va_up (va_up (va_up f np (aJ E 21 (lw nx))) od (aJ E 21 (lw ox))) q (.inr (0, eF cs np od wk (nI n) (nI eb) (nI t) (lN iv) (nI (mwd n k eb)) (nI (min (mwd n k eb + t / 32 + 1) 21)))))) := by
  refine px_M.of (cc := cX0_prepareStep) (maxL := 2) (ret := none) (lv := [(0, .ref q), (1, .int (nI k))]) (by decide) rfl (Nat.le_of_ble_eq_true rfl) rfl ?_
  intro p e s m below meth c A hC hnm
  obtain ⟨Q, hQ⟩ : ∃ Q, Q = MQ below (px_Q E (px_v L (fun f' => ∃ nx ox t iv, dg nx ∧ dg ox ∧ cg ((4294967296 ^ 21 : Nat) : Int) (vl 4294967296 nx 21) (-pv) ∧ cg ((4294967296 ^ 21 : Nat) : Int) ((vl 4294967296 ox 21 : Int) * ((2 ^ t : Nat) : Int)) d ∧ iv < 4294967296 ∧ iv * ox 0 % 4294967296 = 1 ∧ (∃ d' : Int, d = ((2 ^ t : Nat) : Int) * d' ∧ d' % 2 = 1) ∧ t < 672 ∧ f' = va_up (va_up (va_up f np (aJ E 21 (lw nx))) od (aJ E 21 (lw ox))) q (.inr (0, eF cs np od wk (nI n) (nI eb) (nI t) (lN iv) (nI (mwd n k eb)) (nI (min (mwd n k eb + t / 32 + 1) 21)))))) A) [.ref q, .int (nI k)].toArray s (px_rm 2 53).cells (px_rm 2 53).slots A := ⟨_, rfl⟩
  rw [← hQ]
  have hqn : q ≠ np := hq.nk hnp rfl
  have hqo : q ≠ od := hq.nk hod rfl
  have hcn : cs ≠ np := hc.nk hnp rfl
  have hco : cs ≠ od := hc.nk hod rfl
  have hmb : min (k + 2) n * eb ≤ 10 * 31 := Nat.mul_le_mul (by omega) he
  have hmw : mwd n k eb ≤ 11 := by unfold mwd; omega
  have tail : ∀ nx xd, dg nx → cg ((4294967296 ^ 21 : Nat) : Int) (vl 4294967296 nx 21) (-pv) → dg xd → sg xd = d → px p l e (px_rm 2 53) s m [.ref q, .int (nI k)].toArray below meth c 2 E A s.heap L (va_up (va_up f np (aJ E 21 (lw nx))) od (aJ E 21 (lw xd))) 0 0 Q 45 [(0, .ref q), (1, .int (nI k))] [] := by
    intro nx xd dnx hnx dxd sxd
    have g1 := (hq.up (y := aJ E 21 (lw nx)) hqn).up (y := aJ E 21 (lw xd)) hqo
    have o1 : px_at L (va_up (va_up f np (aJ E 21 (lw nx))) od (aJ E 21 (lw xd))) od (aJ E 21 (lw xd)) := (hod.up (fun h => hno h.symm)).self
    refine px_aload_n hC 0 rfl dX0_prepareStep_45 ?_
    refine px_aload_n hC 0 rfl dX0_prepareStep_46 ?_
    refine px_get (C := RX0) (T := TX0) (N := 10) hC g1 rfl kkX0_prepareStep_X0 2 (by decide) flX0_prepareStep_22 rfl dX0_prepareStep_47 ?_
    refine px_callSi (st := [.ref q]) (nn := 1) hC (c_trailZ l E L _ od xd o1 dxd) gX0_prepareStep_X1_trailingZeros rfl (by decide +kernel) (by decide) (Nat.le_of_ble_eq_true rfl) (by decide) rfl rfl dX0_prepareStep_50 (fun z f1 hz => ?_)
    obtain ⟨rfl, t, rfl, hz⟩ := hz
    rcases hz with ⟨h1, -⟩ | ⟨ht, ov, hov⟩
    · exact absurd (by rw [← sxd]; exact (sg_0 dxd).mp h1) hdne
    refine px_put (C := RX0) (T := TX0) (N := 10) (fs' := eF cs np od wk (nI n) (nI eb) (nI t) iv0 mw0 ww0) hC g1 rfl kkX0_prepareStep_X0 6 (by decide) tyX0 tyX0_ok nmX0 flX0_prepareStep_35 rfl rfl rfl (Nat.le_of_ble_eq_true rfl) rfl dX0_prepareStep_53 ?_
    have o2 := o1.up (y := .inr (0, eF cs np od wk (nI n) (nI eb) (nI t) iv0 mw0 ww0)) (fun h => hqo h.symm)
    refine px_aload_n hC 0 rfl dX0_prepareStep_56 ?_
    refine px_get (C := RX0) (T := TX0) (N := 10) hC (g1.self) rfl kkX0_prepareStep_X0 2 (by decide) flX0_prepareStep_22 rfl dX0_prepareStep_57 ?_
    refine px_aload_n hC 0 rfl dX0_prepareStep_60 ?_
    refine px_get (C := RX0) (T := TX0) (N := 10) hC (g1.self) rfl kkX0_prepareStep_X0 6 (by decide) flX0_prepareStep_35 rfl dX0_prepareStep_61 ?_
    refine px_bipush (v := nI 21) hC (by decide) dX0_prepareStep_64 ?_
    refine px_callSv (st := []) (nn := 3) hC (c_shr l E L _ od t 21 xd o2 dxd (by decide) (by omega)) gX0_prepareStep_X1_shiftRight rfl (by decide +kernel) (by decide) (Nat.le_of_ble_eq_true rfl) (by decide) rfl rfl dX0_prepareStep_66 (fun f1 h2 => ?_)
    obtain ⟨ox, dox, -, hox, rfl⟩ := h2
    obtain ⟨hodd, hcg, hd'⟩ := ps_odd ht hov sxd hox dox
    have g2 := (g1.self (y := .inr (0, eF cs np od wk (nI n) (nI eb) (nI t) iv0 mw0 ww0))).up (y := aJ E 21 (lw ox)) hqo
    refine px_aload_n hC 0 rfl dX0_prepareStep_69 ?_
    refine px_aload_n hC 0 rfl dX0_prepareStep_70 ?_
    refine px_get (C := RX0) (T := TX0) (N := 10) hC g2 rfl kkX0_prepareStep_X0 2 (by decide) flX0_prepareStep_22 rfl dX0_prepareStep_71 ?_
    refine px_iconst (v := nI 0) hC (by decide) dX0_prepareStep_74 ?_
    refine px_lald hC o2.self (by decide) (by first | decide | assumption | omega) dX0_prepareStep_75 ?_
    refine px_callSl (st := [.ref q]) (nn := 1) hC (c_inv l E L _ (ox 0) hodd (dox 0 (by decide))) gX0_prepareStep_X1_inverse rfl (by decide +kernel) (by decide) (Nat.le_of_ble_eq_true rfl) (by decide) rfl rfl dX0_prepareStep_76 (fun z f1 hz => ?_)
    obtain ⟨rfl, iv, rfl, hiv, hi1⟩ := hz
    refine px_put (C := RX0) (T := TX0) (N := 10) (fs' := eF cs np od wk (nI n) (nI eb) (nI t) (lN iv) mw0 ww0) hC g2 rfl kkX0_prepareStep_X0 7 (by decide) tyX0 tyX0_ok nmX0 flX0_prepareStep_38 rfl rfl rfl (Nat.le_of_ble_eq_true rfl) rfl dX0_prepareStep_79 ?_
    rw [px_uc _ _ _ hqo, px_uu, px_uu]
    have g3 := ((hq.up (y := aJ E 21 (lw nx)) hqn).up (y := aJ E 21 (lw ox)) hqo).self (y := .inr (0, eF cs np od wk (nI n) (nI eb) (nI t) (lN iv) mw0 ww0))
    refine px_aload_n hC 0 rfl dX0_prepareStep_82 ?_
    refine px_aload_n hC 0 rfl dX0_prepareStep_83 ?_
    refine px_iload_n hC 1 rfl dX0_prepareStep_84 ?_
    refine px_iconst (v := nI 2) hC (by decide) dX0_prepareStep_85 ?_
    refine px_iadd hC dX0_prepareStep_86 ?_
    refine px_ei (y := nI (k + 2)) (nI_add _ _) ?_
    refine px_aload_n hC 0 rfl dX0_prepareStep_87 ?_
    refine px_get (C := RX0) (T := TX0) (N := 10) hC g3 rfl kkX0_prepareStep_X0 4 (by decide) flX0_prepareStep_28 rfl dX0_prepareStep_88 ?_
    refine px_mmin hC (by decide +kernel) (by decide +kernel) (by decide +kernel) (by decide +kernel) (by decide) (Nat.le_of_ble_eq_true rfl) (by decide) dX0_prepareStep_91 ?_
    refine px_ei (y := nI (min (k + 2) n)) (mn_I (by omega) (by omega)) ?_
    refine px_callVi (C := RX0) (T := TX0) (N := 10) (st := [.ref q]) (nn := 1) hC (c_limbs l E L _ q (min (k + 2) n) g3 (by omega) he) g3 rfl gX0_prepareStep_X0_limbsOfMinor rfl (by decide +kernel) (by decide) (Nat.le_of_ble_eq_true rfl) (by decide) rfl rfl dX0_prepareStep_94 (fun z f1 hz => ?_)
    obtain ⟨rfl, rfl⟩ := hz
    refine px_put (C := RX0) (T := TX0) (N := 10) (fs' := eF cs np od wk (nI n) (nI eb) (nI t) (lN iv) (nI (mwd n k eb)) ww0) hC g3 rfl kkX0_prepareStep_X0 8 (by decide) tyX0 tyX0_ok nmX0 flX0_prepareStep_42 rfl rfl rfl (Nat.le_of_ble_eq_true rfl) rfl dX0_prepareStep_97 ?_
    rw [px_uu]
    have g4 := ((hq.up (y := aJ E 21 (lw nx)) hqn).up (y := aJ E 21 (lw ox)) hqo).self (y := .inr (0, eF cs np od wk (nI n) (nI eb) (nI t) (lN iv) (nI (mwd n k eb)) ww0))
    refine px_aload_n hC 0 rfl dX0_prepareStep_100 ?_
    refine px_aload_n hC 0 rfl dX0_prepareStep_101 ?_
    refine px_get (C := RX0) (T := TX0) (N := 10) hC g4 rfl kkX0_prepareStep_X0 8 (by decide) flX0_prepareStep_42 rfl dX0_prepareStep_102 ?_
    refine px_aload_n hC 0 rfl dX0_prepareStep_105 ?_
    refine px_get (C := RX0) (T := TX0) (N := 10) hC g4 rfl kkX0_prepareStep_X0 6 (by decide) flX0_prepareStep_35 rfl dX0_prepareStep_106 ?_
    refine px_bipush (v := nI 32) hC (by decide) dX0_prepareStep_109 ?_
    refine px_idiv hC (by decide) dX0_prepareStep_111 ?_
    refine px_ei (y := nI (t / 32)) (pk_div (by omega) (by decide) (by decide)) ?_
    refine px_iadd hC dX0_prepareStep_112 ?_
    refine px_ei (y := nI (mwd n k eb + t / 32)) (nI_add _ _) ?_
    refine px_iconst (v := nI 1) hC (by decide) dX0_prepareStep_113 ?_
    refine px_iadd hC dX0_prepareStep_114 ?_
    refine px_ei (y := nI (mwd n k eb + t / 32 + 1)) (nI_add _ _) ?_
    refine px_bipush (v := nI 21) hC (by decide) dX0_prepareStep_115 ?_
    refine px_mmin hC (by decide +kernel) (by decide +kernel) (by decide +kernel) (by decide +kernel) (by decide) (Nat.le_of_ble_eq_true rfl) (by decide) dX0_prepareStep_117 ?_
    refine px_ei (y := nI (min (mwd n k eb + t / 32 + 1) 21)) (mn_I (by omega) (by omega)) ?_
    refine px_put (C := RX0) (T := TX0) (N := 10) (fs' := eF cs np od wk (nI n) (nI eb) (nI t) (lN iv) (nI (mwd n k eb)) (nI (min (mwd n k eb + t / 32 + 1) 21))) hC g4 rfl kkX0_prepareStep_X0 9 (by decide) tyX0 tyX0_ok nmX0 flX0_prepareStep_45 rfl rfl rfl (Nat.le_of_ble_eq_true rfl) rfl dX0_prepareStep_120 ?_
    rw [px_uu]
    subst hQ
    exact px_vret hC rfl (⟨rfl, rfl, nx, ox, t, iv, dnx, dox, hnx, hcg, hiv, hi1, hd', ht, rfl⟩) dX0_prepareStep_123
  obtain ⟨xp, hxp, dxp, sxp⟩ := hpv
  have hapo : ap = od ∨ ap ≠ od := Classical.em _
  refine px_aload_n hC 0 rfl dX0_prepareStep_0 ?_
  refine px_iload_n hC 1 rfl dX0_prepareStep_1 ?_
  refine px_iload_n hC 1 rfl dX0_prepareStep_2 ?_
  refine px_callVr (C := RX0) (T := TX0) (N := 10) (st := []) (nn := 2) hC (c_cell l E L f q k k hq hc hpc (by omega)) hq rfl gX0_prepareStep_X0_cell rfl (by decide +kernel) (by decide) (Nat.le_of_ble_eq_true rfl) (by decide) rfl rfl dX0_prepareStep_3 (fun z f1 hz => ?_)
  obtain ⟨rfl, rfl⟩ := hz
  refine px_aload_n hC 0 rfl dX0_prepareStep_6 ?_
  refine px_get (C := RX0) (T := TX0) (N := 10) hC hq rfl kkX0_prepareStep_X0 1 (by decide) flX0_prepareStep_18 rfl dX0_prepareStep_7 ?_
  refine px_callSv (st := []) (nn := 2) hC (c_copyN l E L _ z np xp r1 hxp hnp hapn dxp) gX0_prepareStep_X1_copyNegated rfl (by decide +kernel) (by decide) (Nat.le_of_ble_eq_true rfl) (by decide) rfl rfl dX0_prepareStep_10 (fun f1 h2 => ?_)
  obtain ⟨nx, dnx, ⟨kn, hkn⟩, rfl⟩ := h2
  have hnx : cg ((4294967296 ^ 21 : Nat) : Int) (vl 4294967296 nx 21) (-pv) := by
    have h4 : ((vl 4294967296 nx 21 + vl 4294967296 xp 21 : Nat) : Int) = ((kn * 4294967296 ^ 21 : Nat) : Int) := by rw [hkn]
    rw [Int.natCast_add, Int.natCast_mul] at h4
    have h3 : cg ((4294967296 ^ 21 : Nat) : Int) (vl 4294967296 nx 21) (-(vl 4294967296 xp 21 : Int)) := ⟨kn, by omega⟩
    rw [← sxp]
    exact cg_t h3 (cg_n sg_cg)
  refine px_iload_n hC 1 rfl dX0_prepareStep_13 ?_
  by_cases h0 : k = 0
  · refine px_if_ne hC 28 dX0_prepareStep_14 (by decide) (fun q9 => (q9 (by rw [h0]; rfl)).elim) (fun _ => ?_)
    refine px_aload_n hC 0 rfl dX0_prepareStep_17 ?_
    refine px_get (C := RX0) (T := TX0) (N := 10) hC (hq.up hqn) rfl kkX0_prepareStep_X0 2 (by decide) flX0_prepareStep_22 rfl dX0_prepareStep_18 ?_
    refine px_iconst (v := nI 1) hC (by decide) dX0_prepareStep_21 ?_
    refine px_callSv (st := []) (nn := 2) hC (c_setTo l E L _ od r2 (nI 1) (hod.up (fun h => hno h.symm))) gX0_prepareStep_X1_setTo rfl (by decide +kernel) (by decide) (Nat.le_of_ble_eq_true rfl) (by decide) rfl rfl dX0_prepareStep_22 (fun f1 h2 => ?_)
    subst h2
    refine px_goto hC 45 dX0_prepareStep_25 (by decide) ?_
    exact tail nx (sx (nI 1)) dnx hnx (sx_dg _) (by rw [sx_sg, hd0 h0]; decide)
  · obtain ⟨hdc1, ⟨xd, hxd, dxd, sxd⟩, hadn⟩ := hdc h0
    refine px_if_ne hC 28 dX0_prepareStep_14 (by decide) (fun _ => ?_) (fun q9 => absurd q9 (nI_ne0 (by omega) (by omega)))
    refine px_aload_n hC 0 rfl dX0_prepareStep_28 ?_
    refine px_iload_n hC 1 rfl dX0_prepareStep_29 ?_
    refine px_iconst (v := nI 1) hC (by decide) dX0_prepareStep_30 ?_
    refine px_isub hC dX0_prepareStep_31 ?_
    refine px_ei (y := nI (k - 1)) (pk_sub (by omega)) ?_
    refine px_iload_n hC 1 rfl dX0_prepareStep_32 ?_
    refine px_iconst (v := nI 1) hC (by decide) dX0_prepareStep_33 ?_
    refine px_isub hC dX0_prepareStep_34 ?_
    refine px_ei (y := nI (k - 1)) (pk_sub (by omega)) ?_
    refine px_callVr (C := RX0) (T := TX0) (N := 10) (st := []) (nn := 2) hC (c_cell l E L _ q (k - 1) (k - 1) (hq.up hqn) (hc.up hcn) hdc1 (by omega)) (hq.up hqn) rfl gX0_prepareStep_X0_cell rfl (by decide +kernel) (by decide) (Nat.le_of_ble_eq_true rfl) (by decide) rfl rfl dX0_prepareStep_35 (fun z2 f1 hz => ?_)
    obtain ⟨rfl, rfl⟩ := hz
    refine px_aload_n hC 0 rfl dX0_prepareStep_38 ?_
    refine px_get (C := RX0) (T := TX0) (N := 10) hC (hq.up hqn) rfl kkX0_prepareStep_X0 2 (by decide) flX0_prepareStep_22 rfl dX0_prepareStep_39 ?_
    refine px_callSv (st := []) (nn := 2) hC (c_copy l E L _ z2 od xd r2 (hxd.up hadn) (hod.up (fun h => hno h.symm))) gX0_prepareStep_X1_copy rfl (by decide +kernel) (by decide) (Nat.le_of_ble_eq_true rfl) (by decide) rfl rfl dX0_prepareStep_42 (fun f1 h2 => ?_)
    subst h2
    exact tail nx xd dnx hnx dxd sxd
