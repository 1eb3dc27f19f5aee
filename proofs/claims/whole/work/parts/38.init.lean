/-! ===== the constructors ===== -/
abbrev px_rn (fr ce sl lo : Nat) : Room := { frames := fr, cells := ce, slots := sl, locals := lo }
/-- the pool grew, and of the old cells g alone was written -/
def gx (L : List Nat) (f : Nat → va_E) (g : Nat) (L' : List Nat) (f' : Nat → va_E) : Prop := ∀ a, a ∈ L → a ∈ L' ∧ (a ≠ g → f' a = f a)
theorem gw.toX {L L' : List Nat} {f f' : Nat → va_E} (h : gw L f L' f') (g : Nat) : gx L f g L' f' := fun a ha => ⟨(h a ha).1, fun _ => (h a ha).2⟩
theorem gx.at {L L' : List Nat} {f f' : Nat → va_E} {g : Nat} (h : gx L f g L' f') {a : Nat} {x : va_E} (ha : px_at L f a x) (hn : a ≠ g) : px_at L' f' a x := ⟨(h a ha.1).1, ((h a ha.1).2 hn).trans ha.2⟩
theorem gx.up {L L' : List Nat} {f f' : Nat → va_E} {g : Nat} (h : gx L f g L' f') (y : va_E) : gx L f g L' (va_up f' g y) := fun a ha => ⟨(h a ha).1, fun hn => by rw [va_up_ne _ _ hn]; exact (h a ha).2 hn⟩
theorem gx.grow {L L' L2 : List Nat} {f f' f2 : Nat → va_E} {g : Nat} (h : gx L f g L' f') (h2 : gw L' f' L2 f2) : gx L f g L2 f2 := fun a ha => ⟨(h2 a (h a ha).1).1, fun hn => ((h2 a (h a ha).1).2).trans ((h a ha).2 hn)⟩
theorem gx.tr {L L' L2 : List Nat} {f f' f2 : Nat → va_E} {g o : Nat} (h : gx L f g L' f') (h2 : gx L' f' o L2 f2) (ho : o ∉ L) : gx L f g L2 f2 := fun a ha => ⟨(h2 a (h a ha).1).1, fun hn => ((h2 a (h a ha).1).2 (fun q => ho (q ▸ ha))).trans ((h a ha).2 hn)⟩
theorem gx.new {L L' L2 : List Nat} {f f' f2 : Nat → va_E} {o : Nat} (h : gw L f L' f') (h2 : gx L' f' o L2 f2) (ho : o ∉ L) : gw L f L2 f2 := fun a ha => ⟨(h2 a (h a ha).1).1, ((h2 a (h a ha).1).2 (fun q => ho (q ▸ ha))).trans (h a ha).2⟩
theorem gx.mem {L L' : List Nat} {f f' : Nat → va_E} {g : Nat} (h : gx L f g L' f') {a : Nat} (ha : a ∉ L') : a ∉ L := fun q => ha (h a q).1
theorem flX4_init_9 : Cond.fieldLink RX4 9 "RowReductionModel$Great" "parts" "[I" ∈ wsX4_init := by decide +kernel
theorem kkX4_init_X4 : ∀ w ∈ wsX40, w ∈ wsX4_init := fun _ h => List.mem_cons_of_mem _ (List.mem_append_right _ h)
theorem flX2_init_9 : Cond.fieldLink RX2 9 "RowReduction$LowestTerms" "top" "[J" ∈ wsX2_init := by decide +kernel
theorem kkX2_init_X2 : ∀ w ∈ wsX20, w ∈ wsX2_init := fun _ h => List.mem_cons_of_mem _ (List.mem_append_right _ h)
theorem flX2_init_15 : Cond.fieldLink RX2 15 "RowReduction$LowestTerms" "bottom" "[J" ∈ wsX2_init := by decide +kernel
theorem flX2_init_18 : Cond.fieldLink RX2 18 "RowReduction$LowestTerms" "oddTop" "[J" ∈ wsX2_init := by decide +kernel
theorem flX2_init_21 : Cond.fieldLink RX2 21 "RowReduction$LowestTerms" "oddBottom" "[J" ∈ wsX2_init := by decide +kernel
theorem flX2_init_24 : Cond.fieldLink RX2 24 "RowReduction$LowestTerms" "numerator" "J" ∈ wsX2_init := by decide +kernel
theorem flX2_init_28 : Cond.fieldLink RX2 28 "RowReduction$LowestTerms" "denominator" "J" ∈ wsX2_init := by decide +kernel
theorem c_i4 (l : Launch) (E : px_E) (L : List Nat) (f : Nat → va_E) (g : Nat) (hg : px_at L f g (.inr (3, [.null, .int (nI 0), .int (nI 0), .long (lN 0)]))) : px_M l yX4_init wsX4_init (px_rn 1 1 40 20) E L f [.ref g] (fun v L' f' => v = none ∧ ∃ pa, pa ∉ L ∧ gx L f g L' f' ∧ gS E L' f' g pa 0 0 (fun _ => 0) (lN 0)) := by
  refine px_M.of (cc := cX4_init) (maxL := 1) (ret := none) (lv := [(0, .ref g)]) (by decide) rfl (Nat.le_of_ble_eq_true rfl) rfl ?_
  intro p e s m below meth c A hC hnm
  obtain ⟨Q, hQ⟩ : ∃ Q, Q = MQ below (px_Q E (fun v L' f' => v = none ∧ ∃ pa, pa ∉ L ∧ gx L f g L' f' ∧ gS E L' f' g pa 0 0 (fun _ => 0) (lN 0)) A) [.ref g].toArray s ((px_rn 1 1 40 20)).cells ((px_rn 1 1 40 20)).slots A := ⟨_, rfl⟩
  rw [← hQ]
  refine px_aload_n hC 0 rfl dX4_init_0 ?_
  refine px_objI (st := []) hC (by decide +kernel) (by decide +kernel) (by decide +kernel) (Nat.le_of_ble_eq_true rfl) (by decide) dX4_init_1 ?_
  refine px_aload_n hC 0 rfl dX4_init_4 ?_
  refine px_bipush (v := nI 40) hC (by decide) dX4_init_5 ?_
  refine px_newI (nn := 40) (st := [.ref g]) hC (by decide +kernel) (by first | decide | omega) (by first | exact Nat.le_of_ble_eq_true rfl | (dsimp only; omega)) (by first | exact Nat.le_of_ble_eq_true rfl | (dsimp only; omega)) dX4_init_7 (fun pa L1 f1 h1 w1 a1 => ?_)
  refine px_putF (C := RX4) (T := TX4) (N := 4) (fs' := gF pa (nI 0) (nI 0) (lN 0)) hC (w1.at hg) rfl kkX4_init_X4 0 (by decide) tyX4 tyX4_ok nmX4 flX4_init_9 rfl hnm rfl rfl rfl (Nat.le_of_ble_eq_true rfl) rfl dX4_init_9 ?_
  subst hQ
  exact px_vret hC rfl (⟨rfl, pa, h1, (w1.toX g).up _, (w1.at hg).self, a1.up (a1.nk (w1.at hg) rfl)⟩) dX4_init_12
theorem c_i2 (l : Launch) (E : px_E) (L : List Nat) (f : Nat → va_E) (lt : Nat) (hg : px_at L f lt (.inr (1, [.null, .null, .null, .null, .long (lN 0), .long (lN 0)]))) : px_M l yX2_init wsX2_init (px_rn 1 4 84 20) E L f [.ref lt] (fun v L' f' => v = none ∧ ∃ tp bt ot ob, gx L f lt L' f' ∧ lOK E L' f' lt tp bt ot ob ∧ tp ∉ L ∧ bt ∉ L ∧ ot ∉ L ∧ ob ∉ L) := by
  refine px_M.of (cc := cX2_init) (maxL := 1) (ret := none) (lv := [(0, .ref lt)]) (by decide) rfl (Nat.le_of_ble_eq_true rfl) rfl ?_
  intro p e s m below meth c A hC hnm
  obtain ⟨Q, hQ⟩ : ∃ Q, Q = MQ below (px_Q E (fun v L' f' => v = none ∧ ∃ tp bt ot ob, gx L f lt L' f' ∧ lOK E L' f' lt tp bt ot ob ∧ tp ∉ L ∧ bt ∉ L ∧ ot ∉ L ∧ ob ∉ L) A) [.ref lt].toArray s ((px_rn 1 4 84 20)).cells ((px_rn 1 4 84 20)).slots A := ⟨_, rfl⟩
  rw [← hQ]
  refine px_aload_n hC 0 rfl dX2_init_0 ?_
  refine px_objI (st := []) hC (by decide +kernel) (by decide +kernel) (by decide +kernel) (Nat.le_of_ble_eq_true rfl) (by decide) dX2_init_1 ?_
  refine px_aload_n hC 0 rfl dX2_init_4 ?_
  refine px_bipush (v := nI 21) hC (by decide) dX2_init_5 ?_
  refine px_newJ (nn := 21) (st := [.ref lt]) hC (by decide +kernel) (by first | decide | omega) (by first | exact Nat.le_of_ble_eq_true rfl | (dsimp only; omega)) (by first | exact Nat.le_of_ble_eq_true rfl | (dsimp only; omega)) dX2_init_7 (fun tp L1 f1 h1 w1 a1 => ?_)
  have g1 := w1.at hg
  refine px_putF (C := RX2) (T := TX2) (N := 6) (fs' := [.ref tp, .null, .null, .null, .long (lN 0), .long (lN 0)]) hC g1 rfl kkX2_init_X2 0 (by decide) tyX2 tyX2_ok nmX2 flX2_init_9 rfl hnm rfl rfl rfl (Nat.le_of_ble_eq_true rfl) rfl dX2_init_9 ?_
  have x1 := (w1.toX lt).up (.inr (1, [.ref tp, .null, .null, .null, .long (lN 0), .long (lN 0)]))
  have b1 := a1.up (y := .inr (1, [.ref tp, .null, .null, .null, .long (lN 0), .long (lN 0)])) (a1.nk g1 rfl)
  have g1 := g1.self (y := .inr (1, [.ref tp, .null, .null, .null, .long (lN 0), .long (lN 0)]))
  refine px_aload_n hC 0 rfl dX2_init_12 ?_
  refine px_bipush (v := nI 21) hC (by decide) dX2_init_13 ?_
  refine px_newJ (nn := 21) (st := [.ref lt]) hC (by decide +kernel) (by first | decide | omega) (by first | exact Nat.le_of_ble_eq_true rfl | (dsimp only; omega)) (by first | exact Nat.le_of_ble_eq_true rfl | (dsimp only; omega)) dX2_init_15 (fun bt L2 f2 h2 w2 a2 => ?_)
  have g2 := w2.at g1
  refine px_putF (C := RX2) (T := TX2) (N := 6) (fs' := [.ref tp, .ref bt, .null, .null, .long (lN 0), .long (lN 0)]) hC g2 rfl kkX2_init_X2 1 (by decide) tyX2 tyX2_ok nmX2 flX2_init_15 rfl hnm rfl rfl rfl (Nat.le_of_ble_eq_true rfl) rfl dX2_init_17 ?_
  have x2 := (x1.grow w2).up (.inr (1, [.ref tp, .ref bt, .null, .null, .long (lN 0), .long (lN 0)]))
  have b2 := a2.up (y := .inr (1, [.ref tp, .ref bt, .null, .null, .long (lN 0), .long (lN 0)])) (a2.nk g2 rfl)
  have b1 := (w2.at b1).up (y := .inr (1, [.ref tp, .ref bt, .null, .null, .long (lN 0), .long (lN 0)])) ((w2.at b1).nk g2 rfl)
  have g2 := g2.self (y := .inr (1, [.ref tp, .ref bt, .null, .null, .long (lN 0), .long (lN 0)]))
  refine px_aload_n hC 0 rfl dX2_init_20 ?_
  refine px_bipush (v := nI 21) hC (by decide) dX2_init_21 ?_
  refine px_newJ (nn := 21) (st := [.ref lt]) hC (by decide +kernel) (by first | decide | omega) (by first | exact Nat.le_of_ble_eq_true rfl | (dsimp only; omega)) (by first | exact Nat.le_of_ble_eq_true rfl | (dsimp only; omega)) dX2_init_23 (fun ot L3 f3 h3 w3 a3 => ?_)
  have g3 := w3.at g2
  refine px_putF (C := RX2) (T := TX2) (N := 6) (fs' := [.ref tp, .ref bt, .ref ot, .null, .long (lN 0), .long (lN 0)]) hC g3 rfl kkX2_init_X2 2 (by decide) tyX2 tyX2_ok nmX2 flX2_init_18 rfl hnm rfl rfl rfl (Nat.le_of_ble_eq_true rfl) rfl dX2_init_25 ?_
  have x3 := (x2.grow w3).up (.inr (1, [.ref tp, .ref bt, .ref ot, .null, .long (lN 0), .long (lN 0)]))
  have b3 := a3.up (y := .inr (1, [.ref tp, .ref bt, .ref ot, .null, .long (lN 0), .long (lN 0)])) (a3.nk g3 rfl)
  have b2 := (w3.at b2).up (y := .inr (1, [.ref tp, .ref bt, .ref ot, .null, .long (lN 0), .long (lN 0)])) ((w3.at b2).nk g3 rfl)
  have b1 := (w3.at b1).up (y := .inr (1, [.ref tp, .ref bt, .ref ot, .null, .long (lN 0), .long (lN 0)])) ((w3.at b1).nk g3 rfl)
  have g3 := g3.self (y := .inr (1, [.ref tp, .ref bt, .ref ot, .null, .long (lN 0), .long (lN 0)]))
  refine px_aload_n hC 0 rfl dX2_init_28 ?_
  refine px_bipush (v := nI 21) hC (by decide) dX2_init_29 ?_
  refine px_newJ (nn := 21) (st := [.ref lt]) hC (by decide +kernel) (by first | decide | omega) (by first | exact Nat.le_of_ble_eq_true rfl | (dsimp only; omega)) (by first | exact Nat.le_of_ble_eq_true rfl | (dsimp only; omega)) dX2_init_31 (fun ob L4 f4 h4 w4 a4 => ?_)
  have g4 := w4.at g3
  have x4 := x3.grow w4
  have b3 := w4.at b3
  have b2 := w4.at b2
  have b1 := w4.at b1
  have m1 := b1.1
  refine px_putF (C := RX2) (T := TX2) (N := 6) (fs' := [.ref tp, .ref bt, .ref ot, .ref ob, .long (lN 0), .long (lN 0)]) hC g4 rfl kkX2_init_X2 3 (by decide) tyX2 tyX2_ok nmX2 flX2_init_21 rfl hnm rfl rfl rfl (Nat.le_of_ble_eq_true rfl) rfl dX2_init_33 ?_
  refine px_aload_n hC 0 rfl dX2_init_36 ?_
  refine px_lconst (v := lN 0) hC (by decide) dX2_init_37 ?_
  refine px_put (C := RX2) (T := TX2) (N := 6) (fs' := [.ref tp, .ref bt, .ref ot, .ref ob, .long (lN 0), .long (lN 0)]) hC g4.self rfl kkX2_init_X2 4 (by decide) tyX2 tyX2_ok nmX2 flX2_init_24 rfl rfl rfl (Nat.le_of_ble_eq_true rfl) rfl dX2_init_38 ?_
  rw [px_uu]
  refine px_aload_n hC 0 rfl dX2_init_41 ?_
  refine px_lconst (v := lN 1) hC (by decide) dX2_init_42 ?_
  refine px_put (C := RX2) (T := TX2) (N := 6) (fs' := lF tp bt ot ob (lN 0) (lN 1)) hC g4.self rfl kkX2_init_X2 5 (by decide) tyX2 tyX2_ok nmX2 flX2_init_28 rfl rfl rfl (Nat.le_of_ble_eq_true rfl) rfl dX2_init_43 ?_
  rw [px_uu]
  have n12 : tp ≠ bt := fun q => h2 (q ▸ (a1.1))
  have n13 : tp ≠ ot := fun q => h3 (q ▸ (w2.at (a1.up (a1.nk (w1.at hg) rfl))).1)
  have n23 : bt ≠ ot := fun q => h3 (q ▸ a2.1)
  have n34 : ot ≠ ob := fun q => h4 (q ▸ a3.1)
  have n24 : bt ≠ ob := fun q => h4 (q ▸ ((w3 bt a2.1).1))
  have n14 : tp ≠ ob := fun q => h4 (q ▸ ((w3 tp (w2 tp a1.1).1).1))
  subst hQ
  exact px_vret hC rfl (⟨rfl, tp, bt, ot, ob, x4.up _, ⟨⟨n12, n13, n14, n23, n24, n34⟩, ⟨_, _, g4.self⟩, ⟨_, b1.up (b1.nk g4 rfl)⟩, ⟨_, b2.up (b2.nk g4 rfl)⟩, ⟨_, b3.up (b3.nk g4 rfl)⟩, ⟨_, a4.up (a4.nk g4 rfl)⟩⟩, h1, w1.mem h2, w1.mem (w2.mem h3), w1.mem (w2.mem (w3.mem h4))⟩) dX2_init_46
