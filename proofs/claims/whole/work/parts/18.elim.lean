/-! ===== reduce ===== -/
def tau (o p c t : Nat) : Nat := if t / 11 = o ∧ t % 11 < c then p * 11 + t % 11 else if t / 11 = p ∧ t % 11 < c then o * 11 + t % 11 else t
theorem tau_lt {o p c t : Nat} (ho : o < 10) (hp : p < 10) (ht : t < 110) : tau o p c t < 110 := by
  unfold tau
  by_cases q : t / 11 = o ∧ t % 11 < c
  · rw [if_pos q]; omega
  · rw [if_neg q]
    by_cases q2 : t / 11 = p ∧ t % 11 < c
    · rw [if_pos q2]; omega
    · rw [if_neg q2]; exact ht
theorem tau_inj {o p c t u : Nat} (h : tau o p c t = tau o p c u) : t = u := by
  unfold tau at h
  by_cases q : t / 11 = o ∧ t % 11 < c
  · rw [if_pos q] at h
    by_cases r : u / 11 = o ∧ u % 11 < c
    · rw [if_pos r] at h; omega
    · rw [if_neg r] at h
      by_cases r2 : u / 11 = p ∧ u % 11 < c
      · rw [if_pos r2] at h; omega
      · rw [if_neg r2] at h; omega
  · rw [if_neg q] at h
    by_cases q2 : t / 11 = p ∧ t % 11 < c
    · rw [if_pos q2] at h
      by_cases r : u / 11 = o ∧ u % 11 < c
      · rw [if_pos r] at h; omega
      · rw [if_neg r] at h
        by_cases r2 : u / 11 = p ∧ u % 11 < c
        · rw [if_pos r2] at h; omega
        · rw [if_neg r2] at h; omega
    · rw [if_neg q2] at h
      by_cases r : u / 11 = o ∧ u % 11 < c
      · rw [if_pos r] at h; omega
      · rw [if_neg r] at h
        by_cases r2 : u / 11 = p ∧ u % 11 < c
        · rw [if_pos r2] at h; omega
        · rw [if_neg r2] at h; exact h
theorem crS_tau (cr : Nat → Option Nat) (o p c t : Nat) : crS cr o p c t = cr (tau o p c t) := by
  unfold crS tau
  by_cases q : t / 11 = o ∧ t % 11 < c
  · rw [if_pos q, if_pos q]
  · rw [if_neg q, if_neg q]
    by_cases q2 : t / 11 = p ∧ t % 11 < c
    · rw [if_pos q2, if_pos q2]
    · rw [if_neg q2, if_neg q2]
theorem eD_sw {np od wk : Nat} {cr : Nat → Option Nat} {ad : Nat → Nat} {o p c : Nat} (h : eD np od wk cr ad) (ho : o < 10) (hp : p < 10) : eD np od wk (crS cr o p c) (fun t => ad (tau o p c t)) := by
  obtain ⟨h1, h2, h3, h4⟩ := h
  exact ⟨fun t ht => by rw [crS_tau]; exact h1 _ (tau_lt ho hp ht), fun t u ht hu he => tau_inj (h2 _ _ (tau_lt ho hp ht) (tau_lt ho hp hu) he), fun t ht => h3 _ (tau_lt ho hp ht), h4⟩
theorem fc_10 {m : Nat} (h : m ≤ 10) : fc m ≤ 3628800 := by
  have : ∀ m, m ≤ 10 → fc m ≤ 3628800 := by decide
  exact this m h
theorem bw_w {m eb : Nat} {v : Int} (hm : m ≤ 10) (h : v.natAbs ≤ fc m * (2 ^ eb) ^ m) : -((4294967296 ^ ((m * eb + 23) / 32 + 1) : Nat) : Int) < 2 * v ∧ 2 * v < ((4294967296 ^ ((m * eb + 23) / 32 + 1) : Nat) : Int) := by
  have h1 := fc_10 hm
  have h2 : (2 ^ eb) ^ m = 2 ^ (m * eb) := by rw [← Nat.pow_mul, Nat.mul_comm]
  have h3 : 2 ^ (m * eb + 24) ≤ 4294967296 ^ ((m * eb + 23) / 32 + 1) := by rw [pow_BB]; exact Nat.pow_le_pow_right (by decide) (by omega)
  rw [h2] at h
  have h4 : fc m * 2 ^ (m * eb) ≤ 3628800 * 2 ^ (m * eb) := Nat.mul_le_mul_right _ h1
  have h5 : 0 < 2 ^ (m * eb) := Nat.pow_pos (by decide)
  rw [Nat.pow_add] at h3
  generalize 4294967296 ^ ((m * eb + 23) / 32 + 1) = W at h3 ⊢
  generalize 2 ^ (m * eb) = P at h h3 h4 h5
  omega
theorem tw_lt {k eb t : Nat} {d d' : Int} (hk : k ≤ 9) (he : eb ≤ 31) (hd : d = ((2 ^ t : Nat) : Int) * d') (h0 : d ≠ 0) (h : d.natAbs ≤ fc k * (2 ^ eb) ^ k) : t < 301 := by
  have h1 := fc_10 (show k ≤ 10 by omega)
  have h2 : (2 ^ eb) ^ k ≤ 2 ^ 279 := by rw [← Nat.pow_mul]; exact Nat.pow_le_pow_right (by decide) (by have : eb * k ≤ 31 * 9 := Nat.mul_le_mul he hk; omega)
  have h3 : fc k * (2 ^ eb) ^ k ≤ 3628800 * 2 ^ 279 := Nat.mul_le_mul h1 h2
  have h4 : d' ≠ 0 := fun q => h0 (by rw [hd, q, Int.mul_zero])
  have h5 : 2 ^ t * 1 ≤ d.natAbs := by
    rw [hd, Int.natAbs_mul, Int.natAbs_natCast]
    exact Nat.mul_le_mul_left _ (by omega)
  have h6 : 2 ^ t < 2 ^ 301 := by
    have h7 : (3628800 : Nat) * 2 ^ 279 < 2 ^ 301 := by decide
    omega
  exact (Nat.pow_lt_pow_iff_right (by decide : 1 < 2)).mp h6
def mA (w : Nat → Nat → Int32) (n : Nat) : Nat → Nat → Int := fun i j => if i < n ∧ j ≤ n then (w i j).toInt else 0
def swA {α : Type} (M : Nat → α) (k p i : Nat) : sw M k p i = if i = k then M p else if i = p then M k else M i := rfl
/-- the object's cells: where they are, whatever they hold -/
def eOK (E : px_E) (L : List Nat) (f : Nat → va_E) (q cs np od wk : Nat) (ad0 : Nat → Nat) : Prop := ∃ (cr : Nat → Option Nat) (ad : Nat → Nat) (sz eb tw : Int32) (iv : Int64) (mw ww : Int32), px_at L f q (.inr (0, eF cs np od wk sz eb tw iv mw ww)) ∧ px_at L f cs (aJJ E 110 cr) ∧ eD np od wk cr ad ∧ (∀ t, t < 110 → ∃ u, u < 110 ∧ ad t = ad0 u) ∧ (∀ t, t < 110 → ∃ r, px_at L f (ad t) (aJ E 21 r)) ∧ (∃ r, px_at L f np (aJ E 21 r)) ∧ (∃ r, px_at L f od (aJ E 21 r)) ∧ ∃ r, px_at L f wk (aJ E 21 r)
def eA (q cs np od wk : Nat) (ad0 : Nat → Nat) (b : Nat) : Prop := b = q ∨ b = cs ∨ b = np ∨ b = od ∨ b = wk ∨ ∃ u, u < 110 ∧ b = ad0 u
def eR (E : px_E) (L : List Nat) (f : Nat → va_E) (q cs np od wk n : Nat) (d : Int) (M : Nat → Nat → Int) : Prop := ∃ (cr : Nat → Option Nat) (ad : Nat → Nat) (eb : Nat) (tw : Int32) (iv : Int64) (mw ww : Int32), eb ≤ 31 ∧ px_at L f q (.inr (0, eF cs np od wk (nI n) (nI eb) tw iv mw ww)) ∧ px_at L f cs (aJJ E 110 cr) ∧ eD np od wk cr ad ∧ (∀ i, i < n → cR E L f (ad (i * 11 + n)) (M i n) ∧ -((4294967296 ^ ((n * eb + 23) / 32 + 1) : Nat) : Int) < 2 * M i n ∧ 2 * M i n < ((4294967296 ^ ((n * eb + 23) / 32 + 1) : Nat) : Int)) ∧ cR E L f (ad ((n - 1) * 11 + (n - 1))) d ∧ d ≠ 0 ∧ -((4294967296 ^ ((n * eb + 23) / 32 + 1) : Nat) : Int) < 2 * d ∧ 2 * d < ((4294967296 ^ ((n * eb + 23) / 32 + 1) : Nat) : Int)
def rdI (E : px_E) (L : List Nat) (f g : Nat → va_E) (q cs np od wk : Nat) (ad0 : Nat → Nat) (n eb k : Nat) (d : Int) (M : Nat → Nat → Int) : Prop := ∃ (A' : Nat → Nat → Int) (cr : Nat → Option Nat) (ad : Nat → Nat) (tw : Int32) (iv : Int64) (mw ww : Int32), bI A' n k d M ∧ (∀ i c, (A' i c).natAbs ≤ 2 ^ eb) ∧ px_at L g q (.inr (0, eF cs np od wk (nI n) (nI eb) tw iv mw ww)) ∧ px_at L g cs (aJJ E 110 cr) ∧ eD np od wk cr ad ∧ (∀ t, t < 110 → ∃ u, u < 110 ∧ ad t = ad0 u) ∧ (∀ t, t < 110 → ∃ r, px_at L g (ad t) (aJ E 21 r)) ∧ (∃ r, px_at L g np (aJ E 21 r)) ∧ (∃ r, px_at L g od (aJ E 21 r)) ∧ (∃ r, px_at L g wk (aJ E 21 r)) ∧ (∀ i j, i < n → k ≤ j → j ≤ n → cR E L g (ad (i * 11 + j)) (M i j)) ∧ (k ≠ 0 → cR E L g (ad ((k - 1) * 11 + (k - 1))) d) ∧ (k = 0 → d = 1) ∧ ∀ b, ¬ eA q cs np od wk ad0 b → g b = f b
theorem rdI_ok {E : px_E} {L : List Nat} {f g : Nat → va_E} {q cs np od wk : Nat} {ad0 : Nat → Nat} {n eb k : Nat} {d : Int} {M : Nat → Nat → Int} (h : rdI E L f g q cs np od wk ad0 n eb k d M) : eOK E L g q cs np od wk ad0 := by
  obtain ⟨A', cr, ad, tw, iv, mw, ww, h1, h2, h3, h4, h5, h6, h7, h8, h9, h10, -⟩ := h
  exact ⟨cr, ad, _, _, tw, iv, mw, ww, h3, h4, h5, h6, h7, h8, h9, h10⟩
theorem flX0_reduce_28 : Cond.fieldLink RX0 28 "RowReduction$Elimination" "size" "I" ∈ wsX0_reduce := by decide +kernel
theorem kkX0_reduce_X0 : ∀ w ∈ wsX00, w ∈ wsX0_reduce := fun _ h => List.mem_cons_of_mem _ (List.mem_append_right _ h)
theorem c_reduce (l : Launch) (E : px_E) (L : List Nat) (f : Nat → va_E) (q n sy : Nat) {cs np od wk : Nat} {ad0 : Nat → Nat} {sr : Nat → Option Nat} {ra : Nat → Nat} {w : Nat → Nat → Int32} (hOK : eOK E L f q cs np od wk ad0) (h1n : 1 ≤ n) (hn : n ≤ 10) (hsy : px_at L f sy (aII E 10 sr)) (hra : ∀ i, i < 10 → sr i = some (ra i) ∧ px_at L f (ra i) (aI E 11 (w i))) : px_M l yX0_reduce wsX0_reduce (px_rm 5 115) E L f [.ref q, .ref sy, .int (nI n)] (px_i L (fun z f' => eOK E L f' q cs np od wk ad0 ∧ (∀ b, ¬ eA q cs np od wk ad0 b → f' b = f b) ∧ ((brun n n 0 1 (mA w n) = none ∧ z = nI 0) ∨ (∃ d M, brun n n 0 1 (mA w n) = some (d, M) ∧ z = nI 1 ∧ eR E L f' q cs np od wk n d M)))) := by
  refine px_M.of (cc := cX0_reduce) (maxL := 5) (ret := (some .boolean)) (lv := [(0, .ref q), (1, .ref sy), (2, .int (nI n))]) (by decide) rfl (Nat.le_of_ble_eq_true rfl) rfl ?_
  intro p e s m below meth c A hC hnm
  obtain ⟨Q, hQ⟩ : ∃ Q, Q = MQ below (px_Q E (px_i L (fun z f' => eOK E L f' q cs np od wk ad0 ∧ (∀ b, ¬ eA q cs np od wk ad0 b → f' b = f b) ∧ ((brun n n 0 1 (mA w n) = none ∧ z = nI 0) ∨ (∃ d M, brun n n 0 1 (mA w n) = some (d, M) ∧ z = nI 1 ∧ eR E L f' q cs np od wk n d M)))) A) [.ref q, .ref sy, .int (nI n)].toArray s (px_rm 5 115).cells (px_rm 5 115).slots A := ⟨_, rfl⟩
  rw [← hQ]
  have loop : ∀ (u k eb : Nat) (g : Nat → va_E) (d : Int) (M : Nat → Nat → Int), k + u = n → eb ≤ 31 → rdI E L f g q cs np od wk ad0 n eb k d M → brun n n 0 1 (mA w n) = brun n u k d M → px p l e (px_rm 5 115) s m [.ref q, .ref sy, .int (nI n)].toArray below meth c 5 E A s.heap L (g) 0 0 Q 12 [(0, .ref q), (1, .ref sy), (2, .int (nI n)), (3, .int (nI k))] [] := by
    intro u
    induction u with
    | zero =>
      intro k eb g d M hk heb hI hb
      have hok := rdI_ok hI
      obtain ⟨A', cr, ad, tw, iv, mw, ww, hB, hA, hq, hcs, hD, hr0, har, hnp, hod, hwk, hM, hdc, hd0, hfr⟩ := hI
      have e1 : k = n := by omega
      subst e1
      have hle := bI_le hB hA (Nat.pow_pos (by decide)) (Nat.le_refl k)
      rw [show min (k + 1) k = k by omega] at hle
      have hdl := bI_d hB hA
      refine px_iload_n hC 3 rfl dX0_reduce_12 ?_
      refine px_aload_n hC 0 rfl dX0_reduce_13 ?_
      refine px_get (C := RX0) (T := TX0) (N := 10) hC hq rfl kkX0_reduce_X0 4 (by decide) flX0_reduce_28 rfl dX0_reduce_14 ?_
      refine px_icmp_ge hC 57 dX0_reduce_17 (by decide) (fun _ => ?_) (fun q9 => (q9 (nI_le (Nat.le_refl k) (by omega))).elim)
      refine px_iconst (v := nI 1) hC (by decide) dX0_reduce_57 ?_
      subst hQ
      exact px_zret hC rfl (by decide) (⟨_, rfl, rfl, hok, hfr, Or.inr ⟨d, M, hb, rfl, cr, ad, eb, tw, iv, mw, ww, heb, hq, hcs, hD, fun i hi => ⟨hM i k hi (Nat.le_refl k) (Nat.le_refl k), bw_w hn (hle i k hi (Nat.le_refl k))⟩, hdc (by omega), hdl.1, bw_w hn hdl.2⟩⟩) dX0_reduce_58
    | succ u ih =>
      intro k eb g d M hk heb hI hb
      have hok := rdI_ok hI
      obtain ⟨A', cr, ad, tw, iv, mw, ww, hB, hA, hq, hcs, hD, hr0, har, ⟨rn, hnp⟩, ⟨ro, hod⟩, ⟨rw_, hwk⟩, hM, hdc, hd0, hfr⟩ := hI
      have hdl := bI_d hB hA
      have hqc : q ≠ cs := hq.nk hcs rfl
      have hqn : q ≠ np := hq.nk hnp rfl
      have hqo : q ≠ od := hq.nk hod rfl
      have hqw : q ≠ wk := hq.nk hwk rfl
      have hcn : cs ≠ np := hcs.nk hnp rfl
      have hco : cs ≠ od := hcs.nk hod rfl
      have hcw : cs ≠ wk := hcs.nk hwk rfl
      have hqa : ∀ t, t < 110 → q ≠ ad t := fun t ht => by obtain ⟨r, hr⟩ := har t ht; exact hq.nk hr rfl
      have hca : ∀ t, t < 110 → cs ≠ ad t := fun t ht => by obtain ⟨r, hr⟩ := har t ht; exact hcs.nk hr rfl
      refine px_iload_n hC 3 rfl dX0_reduce_12 ?_
      refine px_aload_n hC 0 rfl dX0_reduce_13 ?_
      refine px_get (C := RX0) (T := TX0) (N := 10) hC hq rfl kkX0_reduce_X0 4 (by decide) flX0_reduce_28 rfl dX0_reduce_14 ?_
      refine px_icmp_ge hC 57 dX0_reduce_17 (by decide) (fun q9 => absurd q9 (nI_ge (by omega) (by omega))) (fun _ => ?_)
      refine px_aload_n hC 0 rfl dX0_reduce_20 ?_
      refine px_iload_n hC 3 rfl dX0_reduce_21 ?_
      refine px_callVi (C := RX0) (T := TX0) (N := 10) (st := []) (nn := 1) hC (c_pivot l E L g q k n M hq hcs hn (by omega) (fun i hi => ⟨_, hD.1 _ (by omega), hM i k hi (Nat.le_refl k) (by omega)⟩)) hq rfl gX0_reduce_X0_findPivotRow rfl (by decide +kernel) (by decide) (Nat.le_of_ble_eq_true rfl) (by decide) rfl rfl dX0_reduce_22 (fun z f1 hz => ?_)
      obtain ⟨rfl, hz⟩ := hz
      have hbr : brun n (u + 1) k d M = (match fnd M k k (n - k) with | none => none | some p => brun n u (k + 1) (M p k) (el (sw M k p) k d)) := rfl
      rw [hbr] at hb
      cases hfd : fnd M k k (n - k) with
      | none =>
        rw [hfd] at hz hb
        subst hz
        refine px_istore (lv' := [(0, .ref q), (1, .ref sy), (2, .int (nI n)), (3, .int (nI k)), (4, .int (-1))]) hC [1, 2, 3, 4, 0] dX0_reduce_25 (by decide) rfl ?_
        refine px_iload hC 4 rfl dX0_reduce_27 ?_
        refine px_if_ge hC 34 dX0_reduce_29 (by decide) (fun q9 => absurd q9 (by decide)) (fun _ => ?_)
        refine px_iconst (v := nI 0) hC (by decide) dX0_reduce_32 ?_
        subst hQ
        exact px_zret hC rfl (by decide) (⟨_, rfl, rfl, hok, hfr, Or.inl ⟨hb, rfl⟩⟩) dX0_reduce_33
      | some pp =>
        rw [hfd] at hz hb
        subst hz
        have hpp := fnd_some _ _ _ hfd
        have hppn : pp < n := by omega
        refine px_istore (lv' := [(0, .ref q), (1, .ref sy), (2, .int (nI n)), (3, .int (nI k)), (4, .int (nI pp))]) hC [1, 2, 3, 4, 0] dX0_reduce_25 (by decide) rfl ?_
        refine px_iload hC 4 rfl dX0_reduce_27 ?_
        refine px_if_ge hC 34 dX0_reduce_29 (by decide) (fun _ => ?_) (fun q9 => (q9 (nI_pos' (by omega))).elim)
        refine px_aload_n hC 0 rfl dX0_reduce_34 ?_
        refine px_iload_n hC 3 rfl dX0_reduce_35 ?_
        refine px_iload hC 4 rfl dX0_reduce_36 ?_
        refine px_callVv (C := RX0) (T := TX0) (N := 10) (st := []) (nn := 2) hC (c_swap l E L _ q k pp n hq hcs hn (by omega) hppn (fun t ht => by obtain ⟨r, hr⟩ := har t ht; exact ⟨_, r, hD.1 t ht, hr⟩)) hq rfl gX0_reduce_X0_swapRows rfl (by decide +kernel) (by decide) (Nat.le_of_ble_eq_true rfl) (by decide) rfl rfl dX0_reduce_38 (fun f2 h2 => ?_)
        subst h2
        have hBs := bI_sw hB hpp.1 hppn
        have hAs : ∀ i c, (sw A' k pp i c).natAbs ≤ 2 ^ eb := fun i c => by
          rw [swA]
          by_cases q1 : i = k
          · rw [if_pos q1]; exact hA _ _
          · rw [if_neg q1]
            by_cases q2 : i = pp
            · rw [if_pos q2]; exact hA _ _
            · rw [if_neg q2]; exact hA _ _
        have hDs := eD_sw (c := n + 1) hD (show k < 10 by omega) (show pp < 10 by omega)
        have hpv : sw M k pp k k = M pp k := by rw [swA, if_pos rfl]
        have hel := bI_el hBs (by omega) (by rw [hpv]; exact hpp.2.2)
        have hMs : ∀ i j, i < n → k ≤ j → j ≤ n → cR E L (va_up f1 cs (aJJ E 110 (crS cr k pp (n + 1)))) (ad (tau k pp (n + 1) (i * 11 + j))) (sw M k pp i j) := fun i j a1 a2 a3 => by
          have h4 : tau k pp (n + 1) (i * 11 + j) = (if i = k then pp else if i = pp then k else i) * 11 + j := by
            unfold tau
            by_cases q1 : i = k
            · rw [if_pos (by omega), if_pos q1]; omega
            · rw [if_neg (by omega), if_neg q1]
              by_cases q2 : i = pp
              · rw [if_pos (by omega), if_pos q2]; omega
              · rw [if_neg (by omega), if_neg q2]
          have h5 : sw M k pp i j = M (if i = k then pp else if i = pp then k else i) j := by
            rw [swA]
            by_cases q1 : i = k
            · rw [if_pos q1, if_pos q1]
            · rw [if_neg q1, if_neg q1]
              by_cases q2 : i = pp
              · rw [if_pos q2, if_pos q2]
              · rw [if_neg q2, if_neg q2]
          rw [h4, h5]
          have h6 : (if i = k then pp else if i = pp then k else i) < n := by
            by_cases q1 : i = k
            · rw [if_pos q1]; exact hppn
            · rw [if_neg q1]
              by_cases q2 : i = pp
              · rw [if_pos q2]; omega
              · rw [if_neg q2]; exact a1
          generalize (if i = k then pp else if i = pp then k else i) = i' at h6 ⊢
          exact (hM i' j h6 a2 a3).fr (va_up_ne _ _ (fun h => hca _ (by omega) h.symm))
        have hdcs : k ≠ 0 → crS cr k pp (n + 1) ((k - 1) * 11 + (k - 1)) = some (ad ((k - 1) * 11 + (k - 1))) ∧ cR E L (va_up f1 cs (aJJ E 110 (crS cr k pp (n + 1)))) (ad ((k - 1) * 11 + (k - 1))) d ∧ ad ((k - 1) * 11 + (k - 1)) ≠ np := fun h => by
          refine ⟨?_, (hdc h).fr (va_up_ne _ _ (fun h => hca _ (by omega) h.symm)), (hD.2.2.1 _ (by omega)).1⟩
          unfold crS
          rw [if_neg (by omega), if_neg (by omega)]
          exact hD.1 _ (by omega)
        have hars : ∀ t, t < 110 → ∃ r, px_at L (va_up f1 cs (aJJ E 110 (crS cr k pp (n + 1)))) (ad (tau k pp (n + 1) t)) (aJ E 21 r) := fun t ht => by
          obtain ⟨r, hr⟩ := har (tau k pp (n + 1) t) (tau_lt (by omega) (by omega) ht)
          exact ⟨r, hr.up (fun h => hca _ (tau_lt (by omega) (by omega) ht) h.symm)⟩
        refine px_aload_n hC 0 rfl dX0_reduce_41 ?_
        refine px_iload_n hC 3 rfl dX0_reduce_42 ?_
        refine px_callVv (C := RX0) (T := TX0) (N := 10) (st := []) (nn := 1) hC (c_prep l E L _ q k n eb (ad := ad ((k - 1) * 11 + (k - 1))) (d := d) (hq.up hqc) hcs.self (hnp.up (fun h => hcn h.symm)) (hod.up (fun h => hco h.symm)) hD.2.2.2.1 hn heb (by omega) (hDs.1 _ (by omega)) (hMs k k (by omega) (Nat.le_refl k) (by omega)) (hDs.2.2.1 _ (by omega)).1 hdcs hd0 hdl.1) (hq.up hqc) rfl gX0_reduce_X0_prepareStep rfl (by decide +kernel) (by decide) (Nat.le_of_ble_eq_true rfl) (by decide) rfl rfl dX0_reduce_43 (fun f3 h3 => ?_)
        obtain ⟨nx, ox, t, iv2, dnx, dox, hnx, hox, hiv, hi1, ⟨d', hd', hdo⟩, ht, rfl⟩ := h3
        have htw := tw_lt (by omega) heb hd' hdl.1 hdl.2
        have hmb : min (k + 2) n * eb ≤ 10 * 31 := Nat.mul_le_mul (by omega) heb
        have hmw : mwd n k eb ≤ 11 := by unfold mwd; omega
        have hmw1 : 1 ≤ mwd n k eb := by unfold mwd; omega
        have e21 : min (mwd n k eb + t / 32 + 1) 21 = mwd n k eb + t / 32 + 1 := by omega
        rw [e21]
        have hle := bI_le hel.1 hAs (Nat.pow_pos (by decide)) (by omega)
        have kq : ∀ {b x}, px_at L (va_up f1 cs (aJJ E 110 (crS cr k pp (n + 1)))) b x → b ≠ np → b ≠ od → b ≠ q → px_at L (va_up (va_up (va_up (va_up f1 cs (aJJ E 110 (crS cr k pp (n + 1)))) np (aJ E 21 (lw nx))) od (aJ E 21 (lw ox))) q (.inr (0, eF cs np od wk (nI n) (nI eb) (nI t) (lN iv2) (nI (mwd n k eb)) (nI (mwd n k eb + t / 32 + 1))))) b x := fun h a1 a2 a3 => ((h.up a1).up a2).up a3
        have hMp : ∀ i j, i < n → k ≤ j → j ≤ n → cR E L (va_up (va_up (va_up (va_up f1 cs (aJJ E 110 (crS cr k pp (n + 1)))) np (aJ E 21 (lw nx))) od (aJ E 21 (lw ox))) q (.inr (0, eF cs np od wk (nI n) (nI eb) (nI t) (lN iv2) (nI (mwd n k eb)) (nI (mwd n k eb + t / 32 + 1))))) (ad (tau k pp (n + 1) (i * 11 + j))) (sw M k pp i j) := fun i j a1 a2 a3 => by
          obtain ⟨x, h4, h5, h6⟩ := hMs i j a1 a2 a3
          have h7 : i * 11 + j < 110 := by omega
          exact ⟨x, kq h4 (hDs.2.2.1 _ h7).1 (hDs.2.2.1 _ h7).2.1 (fun h => hqa _ (tau_lt (by omega) (by omega) h7) h.symm), h5, h6⟩
        have hqp := (((hq.up (y := aJJ E 110 (crS cr k pp (n + 1))) hqc).up (y := aJ E 21 (lw nx)) hqn).up (y := aJ E 21 (lw ox)) hqo).self (y := .inr (0, eF cs np od wk (nI n) (nI eb) (nI t) (lN iv2) (nI (mwd n k eb)) (nI (mwd n k eb + t / 32 + 1))))
        have hcp := kq hcs.self hcn hco (fun h => hqc h.symm)
        have hnpp := (((hnp.up (y := aJJ E 110 (crS cr k pp (n + 1))) (fun h => hcn h.symm)).self (y := aJ E 21 (lw nx))).up (y := aJ E 21 (lw ox)) hD.2.2.2.1).up (y := .inr (0, eF cs np od wk (nI n) (nI eb) (nI t) (lN iv2) (nI (mwd n k eb)) (nI (mwd n k eb + t / 32 + 1)))) (fun h => hqn h.symm)
        have hodp := (((hod.up (y := aJJ E 110 (crS cr k pp (n + 1))) (fun h => hco h.symm)).up (y := aJ E 21 (lw nx)) (fun h => hD.2.2.2.1 h.symm)).self (y := aJ E 21 (lw ox))).up (y := .inr (0, eF cs np od wk (nI n) (nI eb) (nI t) (lN iv2) (nI (mwd n k eb)) (nI (mwd n k eb + t / 32 + 1)))) (fun h => hqo h.symm)
        have hwkp := kq (hwk.up (fun h => hcw h.symm)) (fun h => hD.2.2.2.2.1 h.symm) (fun h => hD.2.2.2.2.2 h.symm) (fun h => hqw h.symm)
        refine px_aload_n hC 0 rfl dX0_reduce_46 ?_
        refine px_iload_n hC 3 rfl dX0_reduce_47 ?_
        refine px_callVv (C := RX0) (T := TX0) (N := 10) (st := []) (nn := 1) hC (c_clear l E L _ q k n (M := sw M k pp) (V := el (sw M k pp) k d) (d := d) (d' := d') hqp hcp hDs hn (by omega) hwkp hnpp hodp dnx dox hMp hnx hox hiv hi1 hd' hdo (fun i j a1 a2 a3 a4 => hel.2 i j a1 a2 a4) hmw1 rfl (by omega) (by omega) (fun i j a1 a2 a3 a4 => bw_w (by omega) (hle i j a1 a4))) hqp rfl gX0_reduce_X0_clearColumn rfl (by decide +kernel) (by decide) (Nat.le_of_ble_eq_true rfl) (by decide) rfl rfl dX0_reduce_48 (fun f4 h4 => ?_)
        obtain ⟨hw4, hc4, hf4⟩ := h4
        refine px_iinc (v := nI (k + 1)) (lv' := [(0, .ref q), (1, .ref sy), (2, .int (nI n)), (3, .int (nI (k + 1))), (4, .int (nI pp))]) hC 3 [1, 2, 3, 0, 4] dX0_reduce_51 rfl (nI_1 k) (by decide) rfl ?_
        refine px_goto hC 12 dX0_reduce_54 (by decide) ?_
        refine px_lv (lv2 := [(0, .ref q), (1, .ref sy), (2, .int (nI n)), (3, .int (nI (k + 1)))]) [0, 1, 2, 3] rfl ?_
        have dlt : ∀ {i j}, dn n k n 0 i j → i * 11 + j < 110 := fun h => by have := h.1; have := h.2.2.2.1; omega
        have kf : ∀ {b x}, px_at L (va_up (va_up (va_up (va_up f1 cs (aJJ E 110 (crS cr k pp (n + 1)))) np (aJ E 21 (lw nx))) od (aJ E 21 (lw ox))) q (.inr (0, eF cs np od wk (nI n) (nI eb) (nI t) (lN iv2) (nI (mwd n k eb)) (nI (mwd n k eb + t / 32 + 1))))) b x → b ≠ wk → (∀ t, t < 110 → b ≠ ad (tau k pp (n + 1) t)) → px_at L f4 b x := fun h a1 a2 => h.fr (hf4 _ a1 (fun i j hd => a2 _ (dlt hd)))
        refine ih (k + 1) eb f4 (M pp k) (el (sw M k pp) k d) (by omega) heb ⟨sw A' k pp, crS cr k pp (n + 1), fun t => ad (tau k pp (n + 1) t), _, _, _, _, by rw [← hpv]; exact hel.1, hAs, kf hqp hqw (fun t ht => hqa _ (tau_lt (by omega) (by omega) ht)), kf hcp hcw (fun t ht => hca _ (tau_lt (by omega) (by omega) ht)), hDs, fun t ht => hr0 _ (tau_lt (by omega) (by omega) ht), fun t ht => ?_, ⟨_, kf hnpp hD.2.2.2.2.1 (fun t ht h => (hDs.2.2.1 t ht).1 h.symm)⟩, ⟨_, kf hodp hD.2.2.2.2.2 (fun t ht h => (hDs.2.2.1 t ht).2.1 h.symm)⟩, hw4, fun i j a1 a2 a3 => ?_, fun _ => ?_, fun h => absurd h (by omega), fun b hb2 => ?_⟩ hb
        · by_cases hx : ∃ i j, dn n k n 0 i j ∧ t = i * 11 + j
          · obtain ⟨i, j, h5, rfl⟩ := hx
            obtain ⟨x, h6, -⟩ := hc4 i j h5
            exact ⟨_, h6⟩
          · obtain ⟨r, hr⟩ := hars t ht
            have h6 := kq hr (hDs.2.2.1 t ht).1 (hDs.2.2.1 t ht).2.1 (fun h => hqa _ (tau_lt (by omega) (by omega) ht) h.symm)
            exact ⟨r, h6.fr (hf4 _ (hDs.2.2.1 t ht).2.2 (fun i j hd he => hx ⟨i, j, hd, hDs.2.1 _ _ ht (dlt hd) he⟩))⟩
        · by_cases q1 : i = k
          · subst q1
            have h5 : el (sw M i pp) i d i j = sw M i pp i j := by unfold el; rw [if_pos rfl]
            rw [h5]
            exact (hMp i j a1 (by omega) a3).fr (hf4 _ (hDs.2.2.1 _ (by omega)).2.2 (fun i' j' hd he => by have h6 := hDs.2.1 _ _ (by omega) (dlt hd) he; have h7 := hd.2.1; have h8 := hd.2.2.2.1; omega))
          · exact hc4 i j ⟨a1, q1, by omega, a3, Or.inl a1⟩
        · rw [show k + 1 - 1 = k by omega, ← hpv]
          exact (hMp k k (by omega) (Nat.le_refl k) (by omega)).fr (hf4 _ (hDs.2.2.1 _ (by omega)).2.2 (fun i' j' hd he => by have h6 := hDs.2.1 _ _ (by omega) (dlt hd) he; have h7 := hd.2.1; have h8 := hd.2.2.2.1; omega))
        · have hb3 : b ≠ q ∧ b ≠ cs ∧ b ≠ np ∧ b ≠ od ∧ b ≠ wk ∧ ∀ u, u < 110 → b ≠ ad0 u := ⟨fun h => hb2 (Or.inl h), fun h => hb2 (Or.inr (Or.inl h)), fun h => hb2 (Or.inr (Or.inr (Or.inl h))), fun h => hb2 (Or.inr (Or.inr (Or.inr (Or.inl h)))), fun h => hb2 (Or.inr (Or.inr (Or.inr (Or.inr (Or.inl h))))), fun u hu h => hb2 (Or.inr (Or.inr (Or.inr (Or.inr (Or.inr ⟨u, hu, h⟩)))))⟩
          rw [hf4 b hb3.2.2.2.2.1 (fun i j hd he => by
            obtain ⟨u, hu, h6⟩ := hr0 _ (tau_lt (c := n + 1) (show k < 10 by omega) (show pp < 10 by omega) (dlt hd))
            exact hb3.2.2.2.2.2 u hu (he.trans h6)), va_up_ne _ _ hb3.1, va_up_ne _ _ hb3.2.2.2.1, va_up_ne _ _ hb3.2.2.1, va_up_ne _ _ hb3.2.1]
          exact hfr b hb2
  obtain ⟨cr, ad, sz, eb0, tw, iv, mw, ww, hq, hcs, hD, hr0, har, ⟨rn, hnp⟩, ⟨ro, hod⟩, ⟨rw_, hwk⟩⟩ := hOK
  have hqc : q ≠ cs := hq.nk hcs rfl
  have hqs : q ≠ sy := hq.nk hsy rfl
  have hqr : ∀ i, i < 10 → ra i ≠ q := fun i hi h => hq.nk (hra i hi).2 rfl h.symm
  have hqa : ∀ t, t < 110 → q ≠ ad t := fun t ht => by obtain ⟨r, hr⟩ := har t ht; exact hq.nk hr rfl
  have hca : ∀ t, t < 110 → cs ≠ ad t := fun t ht => by obtain ⟨r, hr⟩ := har t ht; exact hcs.nk hr rfl
  refine px_aload_n hC 0 rfl dX0_reduce_0 ?_
  refine px_iload_n hC 2 rfl dX0_reduce_1 ?_
  refine px_put (C := RX0) (T := TX0) (N := 10) (fs' := eF cs np od wk (nI n) eb0 tw iv mw ww) hC hq rfl kkX0_reduce_X0 4 (by decide) tyX0 tyX0_ok nmX0 flX0_reduce_28 rfl rfl rfl (Nat.le_of_ble_eq_true rfl) rfl dX0_reduce_2 ?_
  refine px_aload_n hC 0 rfl dX0_reduce_5 ?_
  refine px_aload_n hC 1 rfl dX0_reduce_6 ?_
  refine px_callVv (C := RX0) (T := TX0) (N := 10) (st := []) (nn := 1) hC (c_load l E L _ q n sy (w := w) (ra := ra) hq.self (hcs.up (fun h => hqc h.symm)) hD (fun t ht => by obtain ⟨r, hr⟩ := har t ht; exact ⟨r, hr.up (fun h => hqa t ht h.symm)⟩) hn (hsy.up (fun h => hqs h.symm)) (fun i hi => ⟨(hra i hi).1, (hra i hi).2.up (hqr i hi)⟩)) hq.self rfl gX0_reduce_X0_load rfl (by decide +kernel) (by decide) (Nat.le_of_ble_eq_true rfl) (by decide) rfl rfl dX0_reduce_7 (fun f2 h2 => ?_)
  obtain ⟨eb, g, heb, hcell, hfr, rfl⟩ := h2
  refine px_iconst (v := nI 0) hC (by decide) dX0_reduce_10 ?_
  refine px_istore_n (lv' := [(0, .ref q), (1, .ref sy), (2, .int (nI n)), (3, .int (nI 0))]) hC [1, 2, 3, 0] dX0_reduce_11 (by decide) rfl ?_
  have lt : ∀ {i j}, i < n → j ≤ n → i * 11 + j < 110 := fun a1 a2 => by omega
  have kg : ∀ {b x}, px_at L f b x → b ≠ q → (∀ t, t < 110 → b ≠ ad t) → px_at L (va_up g q (.inr (0, eF cs np od wk (nI n) (nI eb) tw iv mw ww))) b x := fun h a1 a2 => by
    refine h.fr ?_
    rw [va_up_ne _ _ a1, hfr _ (fun i j b1 b2 => a2 _ (lt b1 b2)), va_up_ne _ _ a1]
  refine loop n 0 eb _ 1 (mA w n) (by omega) heb ⟨mA w n, cr, ad, tw, iv, mw, ww, bI_0 _ _, fun i c => ?_, ⟨hq.1, va_up_self _ _ _⟩, kg hcs (fun h => hqc h.symm) hca, hD, hr0, fun t ht => ?_, ⟨rn, kg hnp (fun h => hq.nk hnp rfl h.symm) (fun t ht h => (hD.2.2.1 t ht).1 h.symm)⟩, ⟨ro, kg hod (fun h => hq.nk hod rfl h.symm) (fun t ht h => (hD.2.2.1 t ht).2.1 h.symm)⟩, ⟨rw_, kg hwk (fun h => hq.nk hwk rfl h.symm) (fun t ht h => (hD.2.2.1 t ht).2.2 h.symm)⟩, fun i j a1 a2 a3 => ?_, fun h => absurd rfl h, fun _ => rfl, fun b hb => ?_⟩ rfl
  · unfold mA
    by_cases q1 : i < n ∧ c ≤ n
    · rw [if_pos q1]
      have h3 := (hcell i c q1.1 q1.2).2
      have h4 := m32_abs (w i c)
      omega
    · rw [if_neg q1]; exact Nat.zero_le _
  · by_cases hx : ∃ i j, (i < n ∧ j ≤ n) ∧ t = i * 11 + j
    · obtain ⟨i, j, h5, rfl⟩ := hx
      obtain ⟨x, h6, -⟩ := (hcell i j h5.1 h5.2).1
      exact ⟨_, h6.up (fun h => hqa _ (lt h5.1 h5.2) h.symm)⟩
    · obtain ⟨r, hr⟩ := har t ht
      refine ⟨r, hr.fr ?_⟩
      rw [va_up_ne _ _ (fun h => hqa t ht h.symm), hfr _ (fun i j b1 b2 he => hx ⟨i, j, ⟨b1, b2⟩, hD.2.1 _ _ ht (lt b1 b2) he⟩), va_up_ne _ _ (fun h => hqa t ht h.symm)]
  · have h5 : mA w n i j = (w i j).toInt := by unfold mA; rw [if_pos ⟨a1, a3⟩]
    rw [h5]
    exact (hcell i j a1 a3).1.fr (va_up_ne _ _ (fun h => hqa _ (lt a1 a3) h.symm))
  · have hb3 : b ≠ q := fun h => hb (Or.inl h)
    rw [va_up_ne _ _ hb3, hfr _ (fun i j b1 b2 he => by
      obtain ⟨u, hu, h6⟩ := hr0 _ (lt b1 b2)
      exact hb (Or.inr (Or.inr (Or.inr (Or.inr (Or.inr ⟨u, hu, he.trans h6⟩)))))), va_up_ne _ _ hb3]
