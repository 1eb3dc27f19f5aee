/-! ===== RowReductionModel: its state ===== -/
abbrev mF (nb ab ud mx so : Nat) (sz td : Int32) : List Value := [.int sz, .ref nb, .ref ab, .ref ud, .int td, .ref mx, .ref so]
theorem px_at.nl {L : List Nat} {f : Nat → va_E} {a b : Nat} {c c' : ClassId} {k k' : Nat} {r r' : _} (h : px_at L f a (.inl (c, k, r))) (h2 : px_at L f b (.inl (c', k', r'))) (hk : k ≠ k') : a ≠ b := h.ne h2 (fun e => hk (congrArg (fun z : va_E => match z with | .inl (_, k, _) => k | _ => 0) e))
def mW (E : px_E) (L : List Nat) (f : Nat → va_E) (mm nb ab ud mx so : Nat) (gd pd : Nat → Nat) (sz td : Int32) (r : Nat → Int32) (nu de : Nat → Int64) (pi : Nat → Nat) (V : Nat → Int) : Prop := px_at L f mm (.inr (4, mF nb ab ud mx so sz td)) ∧ px_at L f nb (aI E 110 r) ∧ px_at L f ab (aJ E 10 nu) ∧ px_at L f ud (aJ E 10 de) ∧ (∃ mr : Nat → Option Nat, px_at L f mx (aG E 110 mr) ∧ ∀ t, t < 110 → mr t = some (gd (pi t))) ∧ (∃ sr : Nat → Option Nat, px_at L f so (aG E 8 sr) ∧ ∀ t, t < 8 → sr t = some (gd (110 + t))) ∧ gU E L f gd pd V ∧ ab ≠ ud ∧ (∀ t, t < 110 → pi t < 110) ∧ ∀ t u, t < 110 → u < 110 → pi t = pi u → t = u
def fMo (mm nb ab ud mx so : Nat) (gd pd : Nat → Nat) (b : Nat) : Prop := b = mm ∨ b = nb ∨ b = ab ∨ b = ud ∨ b = mx ∨ b = so ∨ gA gd pd b
section MM
variable {E : px_E} {L : List Nat} {f : Nat → va_E} {mm nb ab ud mx so : Nat} {gd pd : Nat → Nat} {sz td : Int32} {r : Nat → Int32} {nu de : Nat → Int64} {pi : Nat → Nat} {V : Nat → Int}
/-- nothing of the six is among the numbers' cells -/
theorem mW.ga (h : mW E L f mm nb ab ud mx so gd pd sz td r nu de pi V) {b : Nat} (hb : gA gd pd b) : b ≠ mm ∧ b ≠ nb ∧ b ≠ ab ∧ b ≠ ud ∧ b ≠ mx ∧ b ≠ so := by
  obtain ⟨h1, h2, h3, h4, ⟨mr, h5, -⟩, ⟨sr, h6, -⟩, h7, -⟩ := h
  obtain ⟨u, hu, hb⟩ := hb
  obtain ⟨n, mi, x, vv, hS, -⟩ := h7.2 u hu
  rcases hb with rfl | rfl
  · exact ⟨hS.1.nk h1 rfl, hS.1.nk h2 rfl, hS.1.nk h3 rfl, hS.1.nk h4 rfl, hS.1.nk h5 rfl, hS.1.nk h6 rfl⟩
  · exact ⟨hS.2.nk h1 rfl, hS.2.nl h2 (by decide), hS.2.nk h3 rfl, hS.2.nk h4 rfl, hS.2.nk h5 rfl, hS.2.nk h6 rfl⟩
theorem mW.K (h : mW E L f mm nb ab ud mx so gd pd sz td r nu de pi V) {f' : Nat → va_E} {V' : Nat → Int} (hU : gU E L f' gd pd V') (hK : gK gd pd f f') : mW E L f' mm nb ab ud mx so gd pd sz td r nu de pi V' := by
  have k := fun b hb => h.ga (b := b) hb
  obtain ⟨h1, h2, h3, h4, ⟨mr, h5, h5'⟩, ⟨sr, h6, h6'⟩, h7, h8, h9, h10⟩ := h
  exact ⟨h1.fr (hK _ (fun q => (k _ q).1 rfl)), h2.fr (hK _ (fun q => (k _ q).2.1 rfl)), h3.fr (hK _ (fun q => (k _ q).2.2.1 rfl)), h4.fr (hK _ (fun q => (k _ q).2.2.2.1 rfl)), ⟨mr, h5.fr (hK _ (fun q => (k _ q).2.2.2.2.1 rfl)), h5'⟩, ⟨sr, h6.fr (hK _ (fun q => (k _ q).2.2.2.2.2 rfl)), h6'⟩, hU, h8, h9, h10⟩
theorem mW.oM (h : mW E L f mm nb ab ud mx so gd pd sz td r nu de pi V) (sz' td' : Int32) : mW E L (va_up f mm (.inr (4, mF nb ab ud mx so sz' td'))) mm nb ab ud mx so gd pd sz' td' r nu de pi V := by
  have k := fun b hb => h.ga (b := b) hb
  obtain ⟨h1, h2, h3, h4, ⟨mr, h5, h5'⟩, ⟨sr, h6, h6'⟩, h7, h8, h9, h10⟩ := h
  exact ⟨h1.self, h2.up (h2.nk h1 rfl), h3.up (h3.nk h1 rfl), h4.up (h4.nk h1 rfl), ⟨mr, h5.up (h5.nk h1 rfl), h5'⟩, ⟨sr, h6.up (h6.nk h1 rfl), h6'⟩, h7.fr (fun b hb => va_up_ne _ _ (k b hb).1), h8, h9, h10⟩
theorem mW.oN (h : mW E L f mm nb ab ud mx so gd pd sz td r nu de pi V) (r' : Nat → Int32) : mW E L (va_up f nb (aI E 110 r')) mm nb ab ud mx so gd pd sz td r' nu de pi V := by
  have k := fun b hb => h.ga (b := b) hb
  obtain ⟨h1, h2, h3, h4, ⟨mr, h5, h5'⟩, ⟨sr, h6, h6'⟩, h7, h8, h9, h10⟩ := h
  exact ⟨h1.up (h1.nk h2 rfl), h2.self, h3.up (h3.nk h2 rfl), h4.up (h4.nk h2 rfl), ⟨mr, h5.up (h5.nk h2 rfl), h5'⟩, ⟨sr, h6.up (h6.nk h2 rfl), h6'⟩, h7.fr (fun b hb => va_up_ne _ _ (k b hb).2.1), h8, h9, h10⟩
theorem mW.oA (h : mW E L f mm nb ab ud mx so gd pd sz td r nu de pi V) (nu' : Nat → Int64) : mW E L (va_up f ab (aJ E 10 nu')) mm nb ab ud mx so gd pd sz td r nu' de pi V := by
  have k := fun b hb => h.ga (b := b) hb
  obtain ⟨h1, h2, h3, h4, ⟨mr, h5, h5'⟩, ⟨sr, h6, h6'⟩, h7, h8, h9, h10⟩ := h
  exact ⟨h1.up (h1.nk h3 rfl), h2.up (h2.nk h3 rfl), h3.self, h4.up (fun q => h8 q.symm), ⟨mr, h5.up (h5.nk h3 rfl), h5'⟩, ⟨sr, h6.up (h6.nk h3 rfl), h6'⟩, h7.fr (fun b hb => va_up_ne _ _ (k b hb).2.2.1), h8, h9, h10⟩
theorem mW.oU (h : mW E L f mm nb ab ud mx so gd pd sz td r nu de pi V) (de' : Nat → Int64) : mW E L (va_up f ud (aJ E 10 de')) mm nb ab ud mx so gd pd sz td r nu de' pi V := by
  have k := fun b hb => h.ga (b := b) hb
  obtain ⟨h1, h2, h3, h4, ⟨mr, h5, h5'⟩, ⟨sr, h6, h6'⟩, h7, h8, h9, h10⟩ := h
  exact ⟨h1.up (h1.nk h4 rfl), h2.up (h2.nk h4 rfl), h3.up h8, h4.self, ⟨mr, h5.up (h5.nk h4 rfl), h5'⟩, ⟨sr, h6.up (h6.nk h4 rfl), h6'⟩, h7.fr (fun b hb => va_up_ne _ _ (k b hb).2.2.2.1), h8, h9, h10⟩
theorem mW.oX (h : mW E L f mm nb ab ud mx so gd pd sz td r nu de pi V) (mr' : Nat → Option Nat) (pi' : Nat → Nat) (hm : ∀ t, t < 110 → mr' t = some (gd (pi' t))) (hp : ∀ t, t < 110 → pi' t < 110) (hi : ∀ t u, t < 110 → u < 110 → pi' t = pi' u → t = u) : mW E L (va_up f mx (aG E 110 mr')) mm nb ab ud mx so gd pd sz td r nu de pi' V := by
  have k := fun b hb => h.ga (b := b) hb
  obtain ⟨h1, h2, h3, h4, ⟨mr, h5, h5'⟩, ⟨sr, h6, h6'⟩, h7, h8, h9, h10⟩ := h
  exact ⟨h1.up (h1.nk h5 rfl), h2.up (h2.nk h5 rfl), h3.up (h3.nk h5 rfl), h4.up (h4.nk h5 rfl), ⟨mr', h5.self, hm⟩, ⟨sr, h6.up (h6.nl h5 (by decide)), h6'⟩, h7.fr (fun b hb => va_up_ne _ _ (k b hb).2.2.2.2.1), h8, hp, hi⟩
end MM
def MS (E : px_E) (L : List Nat) (f : Nat → va_E) (mm nb ab ud mx so : Nat) (gd pd : Nat → Nat) (n : Nat) (r : Nat → Int32) (td : Nat) (nu de : Nat → Int64) : Prop := 1 ≤ n ∧ n ≤ 10 ∧ td < 2 ∧ ∃ pi V, mW E L f mm nb ab ud mx so gd pd (nI n) (nI td) r nu de pi V
theorem ix_lt {n i j : Nat} (hn : n ≤ 10) (hi : i < n) (hj : j ≤ n) : (n + 1) * i + j < 110 := by
  have h1 : (n + 1) * i + (n + 1) ≤ (n + 1) * n := by rw [← Nat.mul_succ]; exact Nat.mul_le_mul_left _ hi
  have h2 : (n + 1) * n ≤ 11 * 10 := Nat.mul_le_mul (by omega) hn
  omega
theorem ix_inj {n i j i' j' : Nat} (hj : j ≤ n) (hj' : j' ≤ n) (h : (n + 1) * i + j = (n + 1) * i' + j') : i = i' ∧ j = j' := by
  have a1 : ((n + 1) * i + j) / (n + 1) = i := by rw [Nat.mul_add_div (by omega), Nat.div_eq_of_lt (by omega), Nat.add_zero]
  have a2 : ((n + 1) * i' + j') / (n + 1) = i' := by rw [Nat.mul_add_div (by omega), Nat.div_eq_of_lt (by omega), Nat.add_zero]
  rw [h] at a1
  have e : i = i' := a1.symm.trans a2
  subst e
  exact ⟨rfl, by omega⟩
section MM
variable {E : px_E} {L : List Nat} {f : Nat → va_E} {mm nb ab ud mx so : Nat} {gd pd : Nat → Nat} {n : Nat} {r : Nat → Int32} {td : Nat} {nu de : Nat → Int64}
theorem flX5_isThere_9 : Cond.fieldLink RX5 9 "RowReductionModel" "size" "I" ∈ wsX5_isThere := by decide +kernel
theorem kkX5_isThere_X5 : ∀ w ∈ wsX50, w ∈ wsX5_isThere := fun _ h => List.mem_cons_of_mem _ (List.mem_append_right _ h)
theorem flX5_above_35 : Cond.fieldLink RX5 35 "RowReductionModel" "told" "Z" ∈ wsX5_above := by decide +kernel
theorem kkX5_above_X5 : ∀ w ∈ wsX50, w ∈ wsX5_above := fun _ h => List.mem_cons_of_mem _ (List.mem_append_right _ h)
theorem flX5_above_9 : Cond.fieldLink RX5 9 "RowReductionModel" "size" "I" ∈ wsX5_above := by decide +kernel
theorem flX5_above_17 : Cond.fieldLink RX5 17 "RowReductionModel" "above" "[J" ∈ wsX5_above := by decide +kernel
theorem flX5_under_35 : Cond.fieldLink RX5 35 "RowReductionModel" "told" "Z" ∈ wsX5_under := by decide +kernel
theorem kkX5_under_X5 : ∀ w ∈ wsX50, w ∈ wsX5_under := fun _ h => List.mem_cons_of_mem _ (List.mem_append_right _ h)
theorem flX5_under_9 : Cond.fieldLink RX5 9 "RowReductionModel" "size" "I" ∈ wsX5_under := by decide +kernel
theorem flX5_under_21 : Cond.fieldLink RX5 21 "RowReductionModel" "under" "[J" ∈ wsX5_under := by decide +kernel
theorem flX5_get_13 : Cond.fieldLink RX5 13 "RowReductionModel" "numbers" "[I" ∈ wsX5_get := by decide +kernel
theorem kkX5_get_X5 : ∀ w ∈ wsX50, w ∈ wsX5_get := fun _ h => List.mem_cons_of_mem _ (List.mem_append_right _ h)
theorem flX5_get_9 : Cond.fieldLink RX5 9 "RowReductionModel" "size" "I" ∈ wsX5_get := by decide +kernel
theorem flX5_put_13 : Cond.fieldLink RX5 13 "RowReductionModel" "numbers" "[I" ∈ wsX5_put := by decide +kernel
theorem kkX5_put_X5 : ∀ w ∈ wsX50, w ∈ wsX5_put := fun _ h => List.mem_cons_of_mem _ (List.mem_append_right _ h)
theorem flX5_put_9 : Cond.fieldLink RX5 9 "RowReductionModel" "size" "I" ∈ wsX5_put := by decide +kernel
theorem flX5_begin_9 : Cond.fieldLink RX5 9 "RowReductionModel" "size" "I" ∈ wsX5_begin := by decide +kernel
theorem kkX5_begin_X5 : ∀ w ∈ wsX50, w ∈ wsX5_begin := fun _ h => List.mem_cons_of_mem _ (List.mem_append_right _ h)
theorem flX5_begin_13 : Cond.fieldLink RX5 13 "RowReductionModel" "numbers" "[I" ∈ wsX5_begin := by decide +kernel
theorem flX5_begin_35 : Cond.fieldLink RX5 35 "RowReductionModel" "told" "Z" ∈ wsX5_begin := by decide +kernel
theorem c_mThere (l : Launch) (a b : Int32) {sz td : Int32} (n : Nat) (hq : px_at L f mm (.inr (4, mF nb ab ud mx so (nI n) td))) (hn : n ≤ 10) : px_M l yX5_isThere wsX5_isThere (px_rm 0 0) E L f [.ref mm, .int a, .int b] (px_i L (fun z f' => f' = f ∧ ((z = nI 1 ∧ inb a b n) ∨ (z = nI 0 ∧ ¬ inb a b n)))) := by
  refine px_M.of (cc := cX5_isThere) (maxL := 3) (ret := (some .boolean)) (lv := [(0, .ref mm), (1, .int a), (2, .int b)]) (by decide) rfl (Nat.le_of_ble_eq_true rfl) rfl ?_
  intro p e s m below meth c A hC hnm
  obtain ⟨Q, hQ⟩ : ∃ Q, Q = MQ below (px_Q E (px_i L (fun z f' => f' = f ∧ ((z = nI 1 ∧ inb a b n) ∨ (z = nI 0 ∧ ¬ inb a b n)))) A) [.ref mm, .int a, .int b].toArray s (px_rm 0 0).cells (px_rm 0 0).slots A := ⟨_, rfl⟩
  rw [← hQ]
  refine px_iload_n hC 1 rfl dX5_isThere_0 ?_
  by_cases h1 : a < 0
  · refine px_if_lt hC 28 dX5_isThere_1 (by decide) (fun _ => ?_) (fun q9 => (q9 (h1)).elim)
    refine px_iconst (v := nI 0) hC (by decide) dX5_isThere_28 ?_
    subst hQ
    exact px_zret hC rfl (by decide) (⟨_, rfl, rfl, rfl, Or.inr ⟨rfl, fun ⟨i, j, e1, _, h, _⟩ => nI_pos (n := i) (by omega) (by rw [← e1]; exact h1)⟩⟩) dX5_isThere_29
  · obtain ⟨i, hi, ei⟩ := nI_of h1
    subst ei
    refine px_if_lt hC 28 dX5_isThere_1 (by decide) (fun q9 => absurd q9 (h1)) (fun _ => ?_)
    refine px_iload_n hC 1 rfl dX5_isThere_4 ?_
    refine px_aload_n hC 0 rfl dX5_isThere_5 ?_
    refine px_get (C := RX5) (T := TX5) (N := 7) hC hq rfl kkX5_isThere_X5 0 (by decide) flX5_isThere_9 rfl dX5_isThere_6 ?_
    by_cases h2 : n ≤ i
    · refine px_icmp_ge hC 28 dX5_isThere_9 (by decide) (fun _ => ?_) (fun q9 => (q9 (nI_le h2 hi)).elim)
      refine px_iconst (v := nI 0) hC (by decide) dX5_isThere_28 ?_
      subst hQ
      exact px_zret hC rfl (by decide) (⟨_, rfl, rfl, rfl, Or.inr ⟨rfl, fun ⟨i', j, e1, _, h, _⟩ => by have := nI_inj2 hi (by omega) e1; omega⟩⟩) dX5_isThere_29
    · refine px_icmp_ge hC 28 dX5_isThere_9 (by decide) (fun q9 => absurd q9 (nI_ge (by omega) (by omega))) (fun _ => ?_)
      refine px_iload_n hC 2 rfl dX5_isThere_12 ?_
      by_cases h3 : b < 0
      · refine px_if_lt hC 28 dX5_isThere_13 (by decide) (fun _ => ?_) (fun q9 => (q9 (h3)).elim)
        refine px_iconst (v := nI 0) hC (by decide) dX5_isThere_28 ?_
        subst hQ
        exact px_zret hC rfl (by decide) (⟨_, rfl, rfl, rfl, Or.inr ⟨rfl, fun ⟨i', j, _, e2, _, h⟩ => nI_pos (n := j) (by omega) (by rw [← e2]; exact h3)⟩⟩) dX5_isThere_29
      · obtain ⟨j, hj, ej⟩ := nI_of h3
        subst ej
        refine px_if_lt hC 28 dX5_isThere_13 (by decide) (fun q9 => absurd q9 (h3)) (fun _ => ?_)
        refine px_iload_n hC 2 rfl dX5_isThere_16 ?_
        refine px_aload_n hC 0 rfl dX5_isThere_17 ?_
        refine px_get (C := RX5) (T := TX5) (N := 7) hC hq rfl kkX5_isThere_X5 0 (by decide) flX5_isThere_9 rfl dX5_isThere_18 ?_
        by_cases h4 : n < j
        · refine px_icmp_gt hC 28 dX5_isThere_21 (by decide) (fun _ => ?_) (fun q9 => (q9 (nI_lt h4 hj)).elim)
          refine px_iconst (v := nI 0) hC (by decide) dX5_isThere_28 ?_
          subst hQ
          exact px_zret hC rfl (by decide) (⟨_, rfl, rfl, rfl, Or.inr ⟨rfl, fun ⟨i', j', _, e2, _, h⟩ => by have := nI_inj2 hj (by omega) e2; omega⟩⟩) dX5_isThere_29
        · refine px_icmp_gt hC 28 dX5_isThere_21 (by decide) (fun q9 => absurd q9 (nI_nlt (by omega) (by omega))) (fun _ => ?_)
          refine px_iconst (v := nI 1) hC (by decide) dX5_isThere_24 ?_
          refine px_goto hC 29 dX5_isThere_25 (by decide) ?_
          subst hQ
          exact px_zret hC rfl (by decide) (⟨_, rfl, rfl, rfl, Or.inl ⟨rfl, i, j, rfl, rfl, by omega, by omega⟩⟩) dX5_isThere_29
theorem c_mAbove (l : Launch) (a : Int32) (hX : MS E L f mm nb ab ud mx so gd pd n r td nu de) : px_M l yX5_above wsX5_above (px_rm 0 0) E L f [.ref mm, .int a] (px_l L (fun z f' => f' = f ∧ ((∃ i, td = 1 ∧ a = nI i ∧ i < n ∧ z = nu i) ∨ (¬ (td = 1 ∧ ink a n) ∧ z = lN 0)))) := by
  refine px_M.of (cc := cX5_above) (maxL := 2) (ret := (some .long)) (lv := [(0, .ref mm), (1, .int a)]) (by decide) rfl (Nat.le_of_ble_eq_true rfl) rfl ?_
  intro p e s m below meth c A hC hnm
  obtain ⟨Q, hQ⟩ : ∃ Q, Q = MQ below (px_Q E (px_l L (fun z f' => f' = f ∧ ((∃ i, td = 1 ∧ a = nI i ∧ i < n ∧ z = nu i) ∨ (¬ (td = 1 ∧ ink a n) ∧ z = lN 0)))) A) [.ref mm, .int a].toArray s (px_rm 0 0).cells (px_rm 0 0).slots A := ⟨_, rfl⟩
  rw [← hQ]
  obtain ⟨h1n, hn, htd, pi, V, hq, hnb, hnu, hde, -⟩ := hX
  refine px_aload_n hC 0 rfl dX5_above_0 ?_
  refine px_get (C := RX5) (T := TX5) (N := 7) hC hq rfl kkX5_above_X5 4 (by decide) flX5_above_35 rfl dX5_above_1 ?_
  by_cases h0 : td = 0
  · refine px_if_eq hC 28 dX5_above_4 (by decide) (fun _ => ?_) (fun q9 => (q9 (by rw [h0]; rfl)).elim)
    refine px_lconst (v := lN 0) hC (by decide) dX5_above_28 ?_
    subst hQ
    exact px_lret hC rfl (⟨_, rfl, rfl, rfl, Or.inr ⟨fun h => by omega, rfl⟩⟩) dX5_above_29
  · refine px_if_eq hC 28 dX5_above_4 (by decide) (fun q9 => absurd q9 (nI_ne0 (by omega) (by omega))) (fun _ => ?_)
    refine px_iload_n hC 1 rfl dX5_above_7 ?_
    by_cases h1 : a < 0
    · refine px_if_lt hC 28 dX5_above_8 (by decide) (fun _ => ?_) (fun q9 => (q9 (h1)).elim)
      refine px_lconst (v := lN 0) hC (by decide) dX5_above_28 ?_
      subst hQ
      exact px_lret hC rfl (⟨_, rfl, rfl, rfl, Or.inr ⟨fun ⟨_, i, e1, h⟩ => nI_pos (n := i) (by omega) (by rw [← e1]; exact h1), rfl⟩⟩) dX5_above_29
    · obtain ⟨i, hi, ei⟩ := nI_of h1
      subst ei
      refine px_if_lt hC 28 dX5_above_8 (by decide) (fun q9 => absurd q9 (h1)) (fun _ => ?_)
      refine px_iload_n hC 1 rfl dX5_above_11 ?_
      refine px_aload_n hC 0 rfl dX5_above_12 ?_
      refine px_get (C := RX5) (T := TX5) (N := 7) hC hq rfl kkX5_above_X5 0 (by decide) flX5_above_9 rfl dX5_above_13 ?_
      by_cases h2 : n ≤ i
      · refine px_icmp_ge hC 28 dX5_above_16 (by decide) (fun _ => ?_) (fun q9 => (q9 (nI_le h2 hi)).elim)
        refine px_lconst (v := lN 0) hC (by decide) dX5_above_28 ?_
        subst hQ
        exact px_lret hC rfl (⟨_, rfl, rfl, rfl, Or.inr ⟨fun ⟨_, i', e1, h⟩ => by have := nI_inj2 hi (by omega) e1; omega, rfl⟩⟩) dX5_above_29
      · refine px_icmp_ge hC 28 dX5_above_16 (by decide) (fun q9 => absurd q9 (nI_ge (by omega) (by omega))) (fun _ => ?_)
        refine px_aload_n hC 0 rfl dX5_above_19 ?_
        refine px_get (C := RX5) (T := TX5) (N := 7) hC hq rfl kkX5_above_X5 2 (by decide) flX5_above_17 rfl dX5_above_20 ?_
        refine px_iload_n hC 1 rfl dX5_above_23 ?_
        refine px_lald hC hnu (by omega) (by first | decide | assumption | omega) dX5_above_24 ?_
        refine px_goto hC 29 dX5_above_25 (by decide) ?_
        subst hQ
        exact px_lret hC rfl (⟨_, rfl, rfl, rfl, Or.inl ⟨i, by omega, rfl, by omega, rfl⟩⟩) dX5_above_29
theorem c_mUnder (l : Launch) (a : Int32) (hX : MS E L f mm nb ab ud mx so gd pd n r td nu de) : px_M l yX5_under wsX5_under (px_rm 0 0) E L f [.ref mm, .int a] (px_l L (fun z f' => f' = f ∧ ((∃ i, td = 1 ∧ a = nI i ∧ i < n ∧ z = de i) ∨ (¬ (td = 1 ∧ ink a n) ∧ z = lN 0)))) := by
  refine px_M.of (cc := cX5_under) (maxL := 2) (ret := (some .long)) (lv := [(0, .ref mm), (1, .int a)]) (by decide) rfl (Nat.le_of_ble_eq_true rfl) rfl ?_
  intro p e s m below meth c A hC hnm
  obtain ⟨Q, hQ⟩ : ∃ Q, Q = MQ below (px_Q E (px_l L (fun z f' => f' = f ∧ ((∃ i, td = 1 ∧ a = nI i ∧ i < n ∧ z = de i) ∨ (¬ (td = 1 ∧ ink a n) ∧ z = lN 0)))) A) [.ref mm, .int a].toArray s (px_rm 0 0).cells (px_rm 0 0).slots A := ⟨_, rfl⟩
  rw [← hQ]
  obtain ⟨h1n, hn, htd, pi, V, hq, hnb, hnu, hde, -⟩ := hX
  refine px_aload_n hC 0 rfl dX5_under_0 ?_
  refine px_get (C := RX5) (T := TX5) (N := 7) hC hq rfl kkX5_under_X5 4 (by decide) flX5_under_35 rfl dX5_under_1 ?_
  by_cases h0 : td = 0
  · refine px_if_eq hC 28 dX5_under_4 (by decide) (fun _ => ?_) (fun q9 => (q9 (by rw [h0]; rfl)).elim)
    refine px_lconst (v := lN 0) hC (by decide) dX5_under_28 ?_
    subst hQ
    exact px_lret hC rfl (⟨_, rfl, rfl, rfl, Or.inr ⟨fun h => by omega, rfl⟩⟩) dX5_under_29
  · refine px_if_eq hC 28 dX5_under_4 (by decide) (fun q9 => absurd q9 (nI_ne0 (by omega) (by omega))) (fun _ => ?_)
    refine px_iload_n hC 1 rfl dX5_under_7 ?_
    by_cases h1 : a < 0
    · refine px_if_lt hC 28 dX5_under_8 (by decide) (fun _ => ?_) (fun q9 => (q9 (h1)).elim)
      refine px_lconst (v := lN 0) hC (by decide) dX5_under_28 ?_
      subst hQ
      exact px_lret hC rfl (⟨_, rfl, rfl, rfl, Or.inr ⟨fun ⟨_, i, e1, h⟩ => nI_pos (n := i) (by omega) (by rw [← e1]; exact h1), rfl⟩⟩) dX5_under_29
    · obtain ⟨i, hi, ei⟩ := nI_of h1
      subst ei
      refine px_if_lt hC 28 dX5_under_8 (by decide) (fun q9 => absurd q9 (h1)) (fun _ => ?_)
      refine px_iload_n hC 1 rfl dX5_under_11 ?_
      refine px_aload_n hC 0 rfl dX5_under_12 ?_
      refine px_get (C := RX5) (T := TX5) (N := 7) hC hq rfl kkX5_under_X5 0 (by decide) flX5_under_9 rfl dX5_under_13 ?_
      by_cases h2 : n ≤ i
      · refine px_icmp_ge hC 28 dX5_under_16 (by decide) (fun _ => ?_) (fun q9 => (q9 (nI_le h2 hi)).elim)
        refine px_lconst (v := lN 0) hC (by decide) dX5_under_28 ?_
        subst hQ
        exact px_lret hC rfl (⟨_, rfl, rfl, rfl, Or.inr ⟨fun ⟨_, i', e1, h⟩ => by have := nI_inj2 hi (by omega) e1; omega, rfl⟩⟩) dX5_under_29
      · refine px_icmp_ge hC 28 dX5_under_16 (by decide) (fun q9 => absurd q9 (nI_ge (by omega) (by omega))) (fun _ => ?_)
        refine px_aload_n hC 0 rfl dX5_under_19 ?_
        refine px_get (C := RX5) (T := TX5) (N := 7) hC hq rfl kkX5_under_X5 3 (by decide) flX5_under_21 rfl dX5_under_20 ?_
        refine px_iload_n hC 1 rfl dX5_under_23 ?_
        refine px_lald hC hde (by omega) (by first | decide | assumption | omega) dX5_under_24 ?_
        refine px_goto hC 29 dX5_under_25 (by decide) ?_
        subst hQ
        exact px_lret hC rfl (⟨_, rfl, rfl, rfl, Or.inl ⟨i, by omega, rfl, by omega, rfl⟩⟩) dX5_under_29
theorem c_mGet (l : Launch) (a b : Int32) (hX : MS E L f mm nb ab ud mx so gd pd n r td nu de) : px_M l yX5_get wsX5_get (px_rm 1 22) E L f [.ref mm, .int a, .int b] (px_i L (fun z f' => f' = f ∧ ((∃ i j, a = nI i ∧ b = nI j ∧ i < n ∧ j ≤ n ∧ z = r ((n + 1) * i + j)) ∨ (¬ inb a b n ∧ z = nI 0)))) := by
  refine px_M.of (cc := cX5_get) (maxL := 3) (ret := (some .int)) (lv := [(0, .ref mm), (1, .int a), (2, .int b)]) (by decide) rfl (Nat.le_of_ble_eq_true rfl) rfl ?_
  intro p e s m below meth c A hC hnm
  obtain ⟨Q, hQ⟩ : ∃ Q, Q = MQ below (px_Q E (px_i L (fun z f' => f' = f ∧ ((∃ i j, a = nI i ∧ b = nI j ∧ i < n ∧ j ≤ n ∧ z = r ((n + 1) * i + j)) ∨ (¬ inb a b n ∧ z = nI 0)))) A) [.ref mm, .int a, .int b].toArray s (px_rm 1 22).cells (px_rm 1 22).slots A := ⟨_, rfl⟩
  rw [← hQ]
  obtain ⟨h1n, hn, htd, pi, V, hq, hnb, hnu, hde, -⟩ := hX
  refine px_aload_n hC 0 rfl dX5_get_0 ?_
  refine px_iload_n hC 1 rfl dX5_get_1 ?_
  refine px_iload_n hC 2 rfl dX5_get_2 ?_
  refine px_callVi (C := RX5) (T := TX5) (N := 7) (st := []) (nn := 2) hC (c_mThere (sz := nI n) l a b n hq hn) hq rfl gX5_get_X5_isThere rfl (by decide +kernel) (by decide) (Nat.le_of_ble_eq_true rfl) (by decide) rfl rfl dX5_get_3 (fun z f1 hz => ?_)
  obtain ⟨rfl, hz⟩ := hz
  rcases hz with ⟨rfl, i, j, rfl, rfl, hi, hj⟩ | ⟨rfl, h1⟩
  · have hx := ix_lt hn hi hj
    refine px_if_eq hC 27 dX5_get_6 (by decide) (fun q9 => absurd q9 (by decide)) (fun _ => ?_)
    refine px_aload_n hC 0 rfl dX5_get_9 ?_
    refine px_get (C := RX5) (T := TX5) (N := 7) hC hq rfl kkX5_get_X5 1 (by decide) flX5_get_13 rfl dX5_get_10 ?_
    refine px_iload_n hC 1 rfl dX5_get_13 ?_
    refine px_aload_n hC 0 rfl dX5_get_14 ?_
    refine px_get (C := RX5) (T := TX5) (N := 7) hC hq rfl kkX5_get_X5 0 (by decide) flX5_get_9 rfl dX5_get_15 ?_
    refine px_iconst (v := nI 1) hC (by decide) dX5_get_18 ?_
    refine px_iadd hC dX5_get_19 ?_
    refine px_imul hC dX5_get_20 ?_
    refine px_iload_n hC 2 rfl dX5_get_21 ?_
    refine px_iadd hC dX5_get_22 ?_
    refine px_ei (y := nI ((n + 1) * i + j)) (by rw [nI_add, pk_mul, nI_add, Nat.mul_comm i]) ?_
    refine px_iald hC hnb hx (by first | decide | assumption | omega) dX5_get_23 ?_
    refine px_goto hC 28 dX5_get_24 (by decide) ?_
    subst hQ
    exact px_iret hC rfl (⟨_, rfl, rfl, rfl, Or.inl ⟨i, j, rfl, rfl, hi, hj, rfl⟩⟩) dX5_get_28
  · refine px_if_eq hC 27 dX5_get_6 (by decide) (fun _ => ?_) (fun q9 => (q9 (by decide)).elim)
    refine px_iconst (v := nI 0) hC (by decide) dX5_get_27 ?_
    subst hQ
    exact px_iret hC rfl (⟨_, rfl, rfl, rfl, Or.inr ⟨h1, rfl⟩⟩) dX5_get_28
theorem c_mPut (l : Launch) (a b v : Int32) (hX : MS E L f mm nb ab ud mx so gd pd n r td nu de) : px_M l yX5_put wsX5_put (px_rm 1 22) E L f [.ref mm, .int a, .int b, .int v] (px_i L (fun z f' => (∃ i j, a = nI i ∧ b = nI j ∧ i < n ∧ j ≤ n ∧ z = nI 1 ∧ MS E L f' mm nb ab ud mx so gd pd n (upd r ((n + 1) * i + j) v) td nu de ∧ ∀ c, ¬ fMo mm nb ab ud mx so gd pd c → f' c = f c) ∨ (¬ inb a b n ∧ z = nI 0 ∧ f' = f))) := by
  refine px_M.of (cc := cX5_put) (maxL := 4) (ret := (some .boolean)) (lv := [(0, .ref mm), (1, .int a), (2, .int b), (3, .int v)]) (by decide) rfl (Nat.le_of_ble_eq_true rfl) rfl ?_
  intro p e s m below meth c A hC hnm
  obtain ⟨Q, hQ⟩ : ∃ Q, Q = MQ below (px_Q E (px_i L (fun z f' => (∃ i j, a = nI i ∧ b = nI j ∧ i < n ∧ j ≤ n ∧ z = nI 1 ∧ MS E L f' mm nb ab ud mx so gd pd n (upd r ((n + 1) * i + j) v) td nu de ∧ ∀ c, ¬ fMo mm nb ab ud mx so gd pd c → f' c = f c) ∨ (¬ inb a b n ∧ z = nI 0 ∧ f' = f))) A) [.ref mm, .int a, .int b, .int v].toArray s (px_rm 1 22).cells (px_rm 1 22).slots A := ⟨_, rfl⟩
  rw [← hQ]
  obtain ⟨h1n, hn, htd, pi, V, hW⟩ := hX
  have hq := hW.1
  have hnb := hW.2.1
  refine px_aload_n hC 0 rfl dX5_put_0 ?_
  refine px_iload_n hC 1 rfl dX5_put_1 ?_
  refine px_iload_n hC 2 rfl dX5_put_2 ?_
  refine px_callVi (C := RX5) (T := TX5) (N := 7) (st := []) (nn := 2) hC (c_mThere (sz := nI n) l a b n hq hn) hq rfl gX5_put_X5_isThere rfl (by decide +kernel) (by decide) (Nat.le_of_ble_eq_true rfl) (by decide) rfl rfl dX5_put_3 (fun z f1 hz => ?_)
  obtain ⟨rfl, hz⟩ := hz
  rcases hz with ⟨rfl, i, j, rfl, rfl, hi, hj⟩ | ⟨rfl, h1⟩
  · have hx := ix_lt hn hi hj
    refine px_if_ne hC 11 dX5_put_6 (by decide) (fun _ => ?_) (fun q9 => absurd q9 (by decide))
    refine px_aload_n hC 0 rfl dX5_put_11 ?_
    refine px_get (C := RX5) (T := TX5) (N := 7) hC hq rfl kkX5_put_X5 1 (by decide) flX5_put_13 rfl dX5_put_12 ?_
    refine px_iload_n hC 1 rfl dX5_put_15 ?_
    refine px_aload_n hC 0 rfl dX5_put_16 ?_
    refine px_get (C := RX5) (T := TX5) (N := 7) hC hq rfl kkX5_put_X5 0 (by decide) flX5_put_9 rfl dX5_put_17 ?_
    refine px_iconst (v := nI 1) hC (by decide) dX5_put_20 ?_
    refine px_iadd hC dX5_put_21 ?_
    refine px_imul hC dX5_put_22 ?_
    refine px_iload_n hC 2 rfl dX5_put_23 ?_
    refine px_iadd hC dX5_put_24 ?_
    refine px_ei (y := nI ((n + 1) * i + j)) (by rw [nI_add, pk_mul, nI_add, Nat.mul_comm i]) ?_
    refine px_iload_n hC 3 rfl dX5_put_25 ?_
    refine px_iast hC hnb hx (by first | decide | assumption | omega) dX5_put_26 ?_
    refine px_iconst (v := nI 1) hC (by decide) dX5_put_27 ?_
    subst hQ
    exact px_zret hC rfl (by decide) (⟨_, rfl, rfl, Or.inl ⟨i, j, rfl, rfl, hi, hj, rfl, ⟨h1n, hn, htd, pi, V, hW.oN _⟩, fun c hc => va_up_ne _ _ (fun h => hc (Or.inr (Or.inl h)))⟩⟩) dX5_put_28
  · refine px_if_ne hC 11 dX5_put_6 (by decide) (fun q9 => (q9 (by decide)).elim) (fun _ => ?_)
    refine px_iconst (v := nI 0) hC (by decide) dX5_put_9 ?_
    subst hQ
    exact px_zret hC rfl (by decide) (⟨_, rfl, rfl, Or.inr ⟨h1, rfl, rfl⟩⟩) dX5_put_10
theorem c_mBegin (l : Launch) (a : Int32) (hX : MS E L f mm nb ab ud mx so gd pd n r td nu de) : px_M l yX5_begin wsX5_begin (px_rm 0 0) E L f [.ref mm, .int a] (px_i L (fun z f' => (∃ n', a = nI n' ∧ 1 ≤ n' ∧ n' ≤ 10 ∧ z = nI 1 ∧ (∃ r', (∀ t, t < 110 → r' t = nI 0) ∧ MS E L f' mm nb ab ud mx so gd pd n' r' 0 nu de) ∧ ∀ c, ¬ fMo mm nb ab ud mx so gd pd c → f' c = f c) ∨ ((¬ ∃ n', a = nI n' ∧ 1 ≤ n' ∧ n' ≤ 10) ∧ z = nI 0 ∧ f' = f))) := by
  refine px_M.of (cc := cX5_begin) (maxL := 3) (ret := (some .boolean)) (lv := [(0, .ref mm), (1, .int a)]) (by decide) rfl (Nat.le_of_ble_eq_true rfl) rfl ?_
  intro p e s m below meth c A hC hnm
  obtain ⟨Q, hQ⟩ : ∃ Q, Q = MQ below (px_Q E (px_i L (fun z f' => (∃ n', a = nI n' ∧ 1 ≤ n' ∧ n' ≤ 10 ∧ z = nI 1 ∧ (∃ r', (∀ t, t < 110 → r' t = nI 0) ∧ MS E L f' mm nb ab ud mx so gd pd n' r' 0 nu de) ∧ ∀ c, ¬ fMo mm nb ab ud mx so gd pd c → f' c = f c) ∨ ((¬ ∃ n', a = nI n' ∧ 1 ≤ n' ∧ n' ≤ 10) ∧ z = nI 0 ∧ f' = f))) A) [.ref mm, .int a].toArray s (px_rm 0 0).cells (px_rm 0 0).slots A := ⟨_, rfl⟩
  rw [← hQ]
  obtain ⟨h1n, hn, htd, pi, V, hW⟩ := hX
  have hq := hW.1
  have no : (¬ ∃ n', a = nI n' ∧ 1 ≤ n' ∧ n' ≤ 10) → px p l e (px_rm 0 0) s m [.ref mm, .int a].toArray below meth c 3 E A s.heap L (f) 0 0 Q 11 [(0, .ref mm), (1, .int a)] [] := by
    intro h
    refine px_iconst (v := nI 0) hC (by decide) dX5_begin_11 ?_
    subst hQ
    exact px_zret hC rfl (by decide) (⟨_, rfl, rfl, Or.inr ⟨h, rfl, rfl⟩⟩) dX5_begin_12
  refine px_iload_n hC 1 rfl dX5_begin_0 ?_
  refine px_iconst (v := nI 1) hC (by decide) dX5_begin_1 ?_
  by_cases h1 : a < nI 1
  · refine px_icmp_lt hC 11 dX5_begin_2 (by decide) (fun _ => ?_) (fun q9 => (q9 (h1)).elim)
    exact no (fun ⟨n', e, h2, h3⟩ => by subst e; have := (nI_ltI (by omega) (by decide)).mp h1; omega)
  · have ha : ¬ a < 0 := fun h => h1 (neg_lt h (by decide))
    obtain ⟨n', hn', ea⟩ := nI_of ha
    subst ea
    have h1' : 1 ≤ n' := by
      rcases Nat.lt_or_ge n' 1 with q | q
      · exact absurd (nI_lt q (by decide)) h1
      · exact q
    refine px_icmp_lt hC 11 dX5_begin_2 (by decide) (fun q9 => absurd q9 (h1)) (fun _ => ?_)
    refine px_iload_n hC 1 rfl dX5_begin_5 ?_
    refine px_bipush (v := nI 10) hC (by decide) dX5_begin_6 ?_
    by_cases h2 : n' ≤ 10
    · refine px_icmp_le hC 13 dX5_begin_8 (by decide) (fun _ => ?_) (fun q9 => (q9 (nI_le h2 (by decide))).elim)
      refine px_aload_n hC 0 rfl dX5_begin_13 ?_
      refine px_iload_n hC 1 rfl dX5_begin_14 ?_
      refine px_put (C := RX5) (T := TX5) (N := 7) (fs' := mF nb ab ud mx so (nI n') (nI td)) hC hq rfl kkX5_begin_X5 0 (by decide) tyX5 tyX5_ok nmX5 flX5_begin_9 rfl rfl rfl (Nat.le_of_ble_eq_true rfl) rfl dX5_begin_15 ?_
      have loop : ∀ (d k : Nat) (r' : Nat → Int32), k + d = 110 → (∀ t, t < k → r' t = nI 0) → px p l e (px_rm 0 0) s m [.ref mm, .int (nI n')].toArray below meth c 3 E A s.heap L (va_up (va_up f mm (.inr (4, mF nb ab ud mx so (nI n') (nI td)))) nb (aI E 110 r')) 0 0 Q 20 [(0, .ref mm), (1, .int (nI n')), (2, .int (nI k))] [] := by
        intro d
        induction d with
        | zero =>
          intro k r' hk hr
          have ek : k = 110 := by omega
          subst ek
          have hW2 := (hW.oM (nI n') (nI td)).oN r'
          refine px_iload_n hC 2 rfl dX5_begin_20 ?_
          refine px_aload_n hC 0 rfl dX5_begin_21 ?_
          refine px_get (C := RX5) (T := TX5) (N := 7) hC hW2.1 rfl kkX5_begin_X5 1 (by decide) flX5_begin_13 rfl dX5_begin_22 ?_
          refine px_alen (t0 := 0) hC hW2.2.1 rfl dX5_begin_25 ?_
          refine px_icmp_ge hC 42 dX5_begin_26 (by decide) (fun _ => ?_) (fun q9 => (q9 (nI_le (a := 110) (b := 110) (Nat.le_refl 110) (by decide))).elim)
          refine px_aload_n hC 0 rfl dX5_begin_42 ?_
          refine px_iconst (v := nI 0) hC (by decide) dX5_begin_43 ?_
          refine px_put (C := RX5) (T := TX5) (N := 7) (fs' := mF nb ab ud mx so (nI n') (nI 0)) hC hW2.1 rfl kkX5_begin_X5 4 (by decide) tyX5 tyX5_ok nmX5 flX5_begin_35 rfl (by decide) (by decide) (Nat.le_of_ble_eq_true rfl) rfl dX5_begin_44 ?_
          refine px_iconst (v := nI 1) hC (by decide) dX5_begin_47 ?_
          subst hQ
          exact px_zret hC rfl (by decide) (⟨_, rfl, rfl, Or.inl ⟨n', rfl, h1', h2, rfl, ⟨r', hr, h1', h2, by decide, pi, V, hW2.oM (nI n') (nI 0)⟩, fun c hc => by rw [va_up_ne _ _ (fun h => hc (Or.inl h)), va_up_ne _ _ (fun h => hc (Or.inr (Or.inl h))), va_up_ne _ _ (fun h => hc (Or.inl h))]⟩⟩) dX5_begin_48
        | succ d ih =>
          intro k r' hk hr
          have hW2 := (hW.oM (nI n') (nI td)).oN r'
          refine px_iload_n hC 2 rfl dX5_begin_20 ?_
          refine px_aload_n hC 0 rfl dX5_begin_21 ?_
          refine px_get (C := RX5) (T := TX5) (N := 7) hC hW2.1 rfl kkX5_begin_X5 1 (by decide) flX5_begin_13 rfl dX5_begin_22 ?_
          refine px_alen (t0 := 0) hC hW2.2.1 rfl dX5_begin_25 ?_
          refine px_icmp_ge hC 42 dX5_begin_26 (by decide) (fun q9 => absurd q9 (nI_ge (a := k) (b := 110) (by omega) (by decide))) (fun _ => ?_)
          refine px_aload_n hC 0 rfl dX5_begin_29 ?_
          refine px_get (C := RX5) (T := TX5) (N := 7) hC hW2.1 rfl kkX5_begin_X5 1 (by decide) flX5_begin_13 rfl dX5_begin_30 ?_
          refine px_iload_n hC 2 rfl dX5_begin_33 ?_
          refine px_iconst (v := nI 0) hC (by decide) dX5_begin_34 ?_
          refine px_iast hC hW2.2.1 (by omega) (by first | decide | assumption | omega) dX5_begin_35 ?_
          rw [px_uu]
          refine px_iinc (v := nI (k + 1)) (lv' := [(0, .ref mm), (1, .int (nI n')), (2, .int (nI (k + 1)))]) hC 2 [1, 2, 0] dX5_begin_36 rfl (nI_1 k) (by decide) rfl ?_
          refine px_goto hC 20 dX5_begin_39 (by decide) ?_
          refine ih (k + 1) _ (by omega) (fun t ht => ?_)
          by_cases q : t = k
          · subst q; exact pk_us
          · rw [pk_un q]; exact hr t (by omega)
      refine px_iconst (v := nI 0) hC (by decide) dX5_begin_18 ?_
      refine px_istore_n (lv' := [(0, .ref mm), (1, .int (nI n')), (2, .int (nI 0))]) hC [1, 2, 0] dX5_begin_19 (by decide) rfl ?_
      have h0 := loop 110 0 r (by omega) (fun t ht => absurd ht (by omega))
      rw [px_us (hW.oM (nI n') (nI td)).2.1.2] at h0
      exact h0
    · refine px_icmp_le hC 13 dX5_begin_8 (by decide) (fun q9 => absurd q9 (nI_ge (by omega) (by omega))) (fun _ => ?_)
      exact no (fun ⟨n2, e, h3, h4⟩ => by have := nI_inj2 hn' (by omega) e; omega)
end MM
