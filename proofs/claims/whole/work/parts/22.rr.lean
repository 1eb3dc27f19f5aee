theorem eOK_fr {E : px_E} {L : List Nat} {f g : Nat → va_E} {q cs np od wk : Nat} {ad0 : Nat → Nat} (h : eOK E L f q cs np od wk ad0) (hf : ∀ b, eA q cs np od wk ad0 b → g b = f b) : eOK E L g q cs np od wk ad0 := by
  obtain ⟨cr, ad, sz, eb, tw, iv, mw, ww, h1, h2, h3, h4, h5, ⟨r1, h6⟩, ⟨r2, h7⟩, ⟨r3, h8⟩⟩ := h
  refine ⟨cr, ad, sz, eb, tw, iv, mw, ww, h1.fr (hf _ (Or.inl rfl)), h2.fr (hf _ (Or.inr (Or.inl rfl))), h3, h4, fun t ht => ?_, ⟨r1, h6.fr (hf _ (Or.inr (Or.inr (Or.inl rfl))))⟩, ⟨r2, h7.fr (hf _ (Or.inr (Or.inr (Or.inr (Or.inl rfl)))))⟩, ⟨r3, h8.fr (hf _ (Or.inr (Or.inr (Or.inr (Or.inr (Or.inl rfl))))))⟩⟩
  obtain ⟨r, hr⟩ := h5 t ht
  obtain ⟨u, hu, e⟩ := h4 t ht
  exact ⟨r, hr.fr (hf _ (Or.inr (Or.inr (Or.inr (Or.inr (Or.inr ⟨u, hu, e⟩))))))⟩
theorem lOK_fr {E : px_E} {L : List Nat} {f g : Nat → va_E} {lt tp bt ot ob : Nat} (h : lOK E L f lt tp bt ot ob) (h0 : g lt = f lt) (h1 : g tp = f tp) (h2 : g bt = f bt) (h3 : g ot = f ot) (h4 : g ob = f ob) : lOK E L g lt tp bt ot ob := by
  obtain ⟨a1, ⟨nu, de, a2⟩, ⟨r1, a3⟩, ⟨r2, a4⟩, ⟨r3, a5⟩, ⟨r4, a6⟩⟩ := h
  exact ⟨a1, ⟨nu, de, a2.fr h0⟩, ⟨r1, a3.fr h1⟩, ⟨r2, a4.fr h2⟩, ⟨r3, a5.fr h3⟩, ⟨r4, a6.fr h4⟩⟩
theorem eR_rng {E : px_E} {L : List Nat} {f : Nat → va_E} {q cs np od wk n : Nat} {ad0 : Nat → Nat} {d : Int} {M : Nat → Nat → Int} (h : eOK E L f q cs np od wk ad0) (h2 : eR E L f q cs np od wk n d M) : ∃ (cr : Nat → Option Nat) (ad : Nat → Nat) (eb : Nat) (tw : Int32) (iv : Int64) (mw ww : Int32), (∀ t, t < 110 → ∃ u, u < 110 ∧ ad t = ad0 u) ∧ eb ≤ 31 ∧ px_at L f q (.inr (0, eF cs np od wk (nI n) (nI eb) tw iv mw ww)) ∧ px_at L f cs (aJJ E 110 cr) ∧ eD np od wk cr ad ∧ (∀ i, i < n → cR E L f (ad (i * 11 + n)) (M i n) ∧ -((4294967296 ^ ((n * eb + 23) / 32 + 1) : Nat) : Int) < 2 * M i n ∧ 2 * M i n < ((4294967296 ^ ((n * eb + 23) / 32 + 1) : Nat) : Int)) ∧ cR E L f (ad ((n - 1) * 11 + (n - 1))) d ∧ d ≠ 0 ∧ -((4294967296 ^ ((n * eb + 23) / 32 + 1) : Nat) : Int) < 2 * d ∧ 2 * d < ((4294967296 ^ ((n * eb + 23) / 32 + 1) : Nat) : Int) := by
  obtain ⟨cr1, ad1, sz, eb1, tw1, iv1, mw1, ww1, -, a2, a3, a4, -⟩ := h
  obtain ⟨cr, ad, eb, tw, iv, mw, ww, b0, b1, b2, b3, b4⟩ := h2
  have e0 : aJJ E 110 cr1 = aJJ E 110 cr := a2.2.symm.trans b2.2
  have e1 : cr1 = cr := by
    have e2 := congrArg (fun z : va_E => match z with | .inl (_, _, .inr (.inr (.inr (.inr r)))) => r | _ => fun _ => none) e0
    exact e2
  refine ⟨cr, ad, eb, tw, iv, mw, ww, fun t ht => ?_, b0, b1, b2, b3, b4⟩
  obtain ⟨u, hu, e⟩ := a4 t ht
  have e3 := a3.1 t ht
  rw [e1, b3.1 t ht] at e3
  exact ⟨u, hu, (Option.some.inj e3).trans e⟩
def sR (n : Nat) (A : Nat → Nat → Int) (z : Int32) (td : Nat) (nu de : Nat → Int64) : Prop := (brun n n 0 1 A = none ∧ z = (-1) ∧ td = 0) ∨ ∃ d M, brun n n 0 1 A = some (d, M) ∧ ((∃ k, k < n ∧ (∀ j, j < k → fit (M j n) d) ∧ ¬ fit (M k n) d ∧ z = nI (1 + k) ∧ td = 0) ∨ ((∀ j, j < n → fit (M j n) d) ∧ z = nI 0 ∧ td = 1 ∧ ∀ j, j < n → (nu j).toInt = fN (M j n) d ∧ (de j).toInt = fM (M j n) d))
theorem neg_lt {a : Int32} {k : Nat} (h : a < 0) (hk : k < 2 ^ 31) : a < nI k := by
  rw [Int32.lt_iff_toInt_lt] at h ⊢
  rw [nI_toInt hk]
  have : (0 : Int32).toInt = 0 := by decide
  omega
section XX
variable {E : px_E} {L : List Nat} {f : Nat → va_E} {rr sy nm dn el lt cs np od wk tp bt ot ob : Nat} {ad0 ra : Nat → Nat} {n : Nat} {w : Nat → Nat → Int32} {td : Nat} {nu de : Nat → Int64}
theorem flX3_put_11 : Cond.fieldLink RX3 11 "RowReduction" "system" "[[I" ∈ wsX3_put := by decide +kernel
theorem kkX3_put_X3 : ∀ w ∈ wsX30, w ∈ wsX3_put := fun _ h => List.mem_cons_of_mem _ (List.mem_append_right _ h)
theorem flX3_begin_35 : Cond.fieldLink RX3 35 "RowReduction" "size" "I" ∈ wsX3_begin := by decide +kernel
theorem kkX3_begin_X3 : ∀ w ∈ wsX30, w ∈ wsX3_begin := fun _ h => List.mem_cons_of_mem _ (List.mem_append_right _ h)
theorem flX3_begin_39 : Cond.fieldLink RX3 39 "RowReduction" "told" "Z" ∈ wsX3_begin := by decide +kernel
theorem flX3_begin_11 : Cond.fieldLink RX3 11 "RowReduction" "system" "[[I" ∈ wsX3_begin := by decide +kernel
theorem flX3_solve_39 : Cond.fieldLink RX3 39 "RowReduction" "told" "Z" ∈ wsX3_solve := by decide +kernel
theorem kkX3_solve_X3 : ∀ w ∈ wsX30, w ∈ wsX3_solve := fun _ h => List.mem_cons_of_mem _ (List.mem_append_left _ (List.mem_append_left _ (List.mem_append_right _ h)))
theorem flX3_solve_24 : Cond.fieldLink RX3 24 "RowReduction" "elimination" "LRowReduction$Elimination;" ∈ wsX3_solve := by decide +kernel
theorem flX3_solve_11 : Cond.fieldLink RX3 11 "RowReduction" "system" "[[I" ∈ wsX3_solve := by decide +kernel
theorem flX3_solve_35 : Cond.fieldLink RX3 35 "RowReduction" "size" "I" ∈ wsX3_solve := by decide +kernel
theorem flX3_solve_31 : Cond.fieldLink RX3 31 "RowReduction" "lowestTerms" "LRowReduction$LowestTerms;" ∈ wsX3_solve := by decide +kernel
theorem flX3_solve_14 : Cond.fieldLink RX3 14 "RowReduction" "numerators" "[J" ∈ wsX3_solve := by decide +kernel
theorem kkX3_solve_X2 : ∀ w ∈ wsX20, w ∈ wsX3_solve := fun _ h => List.mem_cons_of_mem _ (List.mem_append_left _ (List.mem_append_right _ h))
theorem flX3_solve_18 : Cond.fieldLink RX3 18 "RowReduction" "denominators" "[J" ∈ wsX3_solve := by decide +kernel
theorem c_put (l : Launch) (a b v : Int32) (hX : XS E L f rr sy nm dn el lt cs np od wk tp bt ot ob ad0 ra n w td nu de) : px_M l yX3_put wsX3_put (px_rm 1 22) E L f [.ref rr, .int a, .int b, .int v] (px_i L (fun z f' => (∃ i j, a = nI i ∧ b = nI j ∧ i < n ∧ j ≤ n ∧ z = nI 1 ∧ XS E L f' rr sy nm dn el lt cs np od wk tp bt ot ob ad0 ra n (va_up w i (upd (w i) j v)) td nu de ∧ ∀ c, ¬ fX rr sy nm dn el lt cs np od wk tp bt ot ob ad0 ra c → f' c = f c) ∨ (¬ inb a b n ∧ z = nI 0 ∧ f' = f))) := by
  refine px_M.of (cc := cX3_put) (maxL := 4) (ret := (some .boolean)) (lv := [(0, .ref rr), (1, .int a), (2, .int b), (3, .int v)]) (by decide) rfl (Nat.le_of_ble_eq_true rfl) rfl ?_
  intro p e s m below meth c A hC hnm
  obtain ⟨Q, hQ⟩ : ∃ Q, Q = MQ below (px_Q E (px_i L (fun z f' => (∃ i j, a = nI i ∧ b = nI j ∧ i < n ∧ j ≤ n ∧ z = nI 1 ∧ XS E L f' rr sy nm dn el lt cs np od wk tp bt ot ob ad0 ra n (va_up w i (upd (w i) j v)) td nu de ∧ ∀ c, ¬ fX rr sy nm dn el lt cs np od wk tp bt ot ob ad0 ra c → f' c = f c) ∨ (¬ inb a b n ∧ z = nI 0 ∧ f' = f))) A) [.ref rr, .int a, .int b, .int v].toArray s (px_rm 1 22).cells (px_rm 1 22).slots A := ⟨_, rfl⟩
  rw [← hQ]
  obtain ⟨hG, h1n, hn, htd, hq, ⟨sr, hsy, hsr⟩, hra, hnm, hdn, hE, hL⟩ := hX
  refine px_aload_n hC 0 rfl dX3_put_0 ?_
  refine px_iload_n hC 1 rfl dX3_put_1 ?_
  refine px_iload_n hC 2 rfl dX3_put_2 ?_
  refine px_callVi (C := RX3) (T := TX3) (N := 7) (st := []) (nn := 2) hC (c_has l E L f rr n a b hq hn) hq rfl gX3_put_X3_hasNumber rfl (by decide +kernel) (by decide) (Nat.le_of_ble_eq_true rfl) (by decide) rfl rfl dX3_put_3 (fun z f1 hz => ?_)
  obtain ⟨rfl, hz⟩ := hz
  rcases hz with ⟨rfl, i, j, rfl, rfl, hi, hj⟩ | ⟨rfl, h1⟩
  · have hri := hra i (by omega)
    have hE2 := hG.2.2 (ra i) (Or.inr (Or.inr (Or.inr (Or.inr (Or.inr (Or.inr (Or.inr (Or.inr (Or.inr ⟨i, by omega, rfl⟩)))))))))
    obtain ⟨g1, ⟨nu0, de0, g2⟩, ⟨r1, g3⟩, ⟨r2, g4⟩, ⟨r3, g5⟩, ⟨r4, g6⟩⟩ := id hL
    refine px_if_ne hC 11 dX3_put_6 (by decide) (fun _ => ?_) (fun q9 => absurd q9 (by decide))
    refine px_aload_n hC 0 rfl dX3_put_11 ?_
    refine px_get (C := RX3) (T := TX3) (N := 7) hC hq rfl kkX3_put_X3 0 (by decide) flX3_put_11 rfl dX3_put_12 ?_
    refine px_iload_n hC 1 rfl dX3_put_15 ?_
    refine px_aald (t0 := 3) hC hsy rfl rfl (by omega) (by first | decide | assumption | omega) (hsr i (by omega)) dX3_put_16 ?_
    refine px_iload_n hC 2 rfl dX3_put_17 ?_
    refine px_iload_n hC 3 rfl dX3_put_18 ?_
    refine px_iast hC hri (by omega) (by first | decide | assumption | omega) dX3_put_19 ?_
    refine px_iconst (v := nI 1) hC (by decide) dX3_put_20 ?_
    subst hQ
    exact px_zret hC rfl (by decide) (⟨_, rfl, rfl, Or.inl ⟨i, j, rfl, rfl, hi, hj, rfl, ⟨hG, h1n, hn, htd, hq.up (fun h => hri.nk hq rfl h.symm), ⟨sr, hsy.up (fun h => hri.nk hsy rfl h.symm), hsr⟩, fun k hk => by by_cases q : k = i; (subst q; rw [va_up_self]; exact hri.self); (rw [va_up_ne _ _ q]; exact (hra k hk).up (fun h => q (hG.1 _ _ hk (by omega) h))), hnm.up (fun h => hri.nk hnm rfl h.symm), hdn.up (fun h => hri.nk hdn rfl h.symm), eOK_fr hE (fun c hc => va_up_ne _ _ (fun h => hE2 (h ▸ hc))), lOK_fr hL (va_up_ne _ _ (fun h => hri.nk g2 rfl h.symm)) (va_up_ne _ _ (fun h => hri.nk g3 rfl h.symm)) (va_up_ne _ _ (fun h => hri.nk g4 rfl h.symm)) (va_up_ne _ _ (fun h => hri.nk g5 rfl h.symm)) (va_up_ne _ _ (fun h => hri.nk g6 rfl h.symm))⟩, fun c hc => va_up_ne _ _ (fun h => hc (Or.inr (Or.inr (Or.inr (Or.inr (Or.inr (Or.inr (Or.inr (Or.inr (Or.inr (Or.inr ⟨i, by omega, h⟩)))))))))))⟩⟩) dX3_put_21
  · refine px_if_ne hC 11 dX3_put_6 (by decide) (fun q9 => (q9 (by decide)).elim) (fun _ => ?_)
    refine px_iconst (v := nI 0) hC (by decide) dX3_put_9 ?_
    subst hQ
    exact px_zret hC rfl (by decide) (⟨_, rfl, rfl, Or.inr ⟨h1, rfl, rfl⟩⟩) dX3_put_10
theorem c_begin (l : Launch) (a : Int32) (hX : XS E L f rr sy nm dn el lt cs np od wk tp bt ot ob ad0 ra n w td nu de) : px_M l yX3_begin wsX3_begin (px_rm 1 23) E L f [.ref rr, .int a] (px_i L (fun z f' => (∃ n', a = nI n' ∧ 1 ≤ n' ∧ n' ≤ 10 ∧ z = nI 1 ∧ XS E L f' rr sy nm dn el lt cs np od wk tp bt ot ob ad0 ra n' (fun _ _ => nI 0) 0 nu de ∧ ∀ c, ¬ fX rr sy nm dn el lt cs np od wk tp bt ot ob ad0 ra c → f' c = f c) ∨ ((¬ ∃ n', a = nI n' ∧ 1 ≤ n' ∧ n' ≤ 10) ∧ z = nI 0 ∧ f' = f))) := by
  refine px_M.of (cc := cX3_begin) (maxL := 3) (ret := (some .boolean)) (lv := [(0, .ref rr), (1, .int a)]) (by decide) rfl (Nat.le_of_ble_eq_true rfl) rfl ?_
  intro p e s m below meth c A hC hnm
  obtain ⟨Q, hQ⟩ : ∃ Q, Q = MQ below (px_Q E (px_i L (fun z f' => (∃ n', a = nI n' ∧ 1 ≤ n' ∧ n' ≤ 10 ∧ z = nI 1 ∧ XS E L f' rr sy nm dn el lt cs np od wk tp bt ot ob ad0 ra n' (fun _ _ => nI 0) 0 nu de ∧ ∀ c, ¬ fX rr sy nm dn el lt cs np od wk tp bt ot ob ad0 ra c → f' c = f c) ∨ ((¬ ∃ n', a = nI n' ∧ 1 ≤ n' ∧ n' ≤ 10) ∧ z = nI 0 ∧ f' = f))) A) [.ref rr, .int a].toArray s (px_rm 1 23).cells (px_rm 1 23).slots A := ⟨_, rfl⟩
  rw [← hQ]
  obtain ⟨hG, h1n, hn, htd, hq, ⟨sr, hsy, hsr⟩, hra, hnm, hdn, hE, hL⟩ := hX
  obtain ⟨g1, ⟨nu0, de0, g2⟩, ⟨r1, g3⟩, ⟨r2, g4⟩, ⟨r3, g5⟩, ⟨r4, g6⟩⟩ := id hL
  refine px_iload_n hC 1 rfl dX3_begin_0 ?_
  refine px_iconst (v := nI 1) hC (by decide) dX3_begin_1 ?_
  by_cases h1 : a < 0
  · refine px_icmp_lt hC 11 dX3_begin_2 (by decide) (fun _ => ?_) (fun q9 => (q9 (neg_lt h1 (by decide))).elim)
    refine px_iconst (v := nI 0) hC (by decide) dX3_begin_11 ?_
    subst hQ
    exact px_zret hC rfl (by decide) (⟨_, rfl, rfl, Or.inr ⟨fun ⟨i, e1, _, h⟩ => nI_pos (n := i) (by omega) (by rw [← e1]; exact h1), rfl, rfl⟩⟩) dX3_begin_12
  obtain ⟨n', hn', ei⟩ := nI_of h1
  subst ei
  by_cases h2 : n' < 1
  · refine px_icmp_lt hC 11 dX3_begin_2 (by decide) (fun _ => ?_) (fun q9 => (q9 (nI_lt h2 (by decide))).elim)
    refine px_iconst (v := nI 0) hC (by decide) dX3_begin_11 ?_
    subst hQ
    exact px_zret hC rfl (by decide) (⟨_, rfl, rfl, Or.inr ⟨fun ⟨i, e1, h, h3⟩ => by have := nI_inj2 hn' (by omega) e1; omega, rfl, rfl⟩⟩) dX3_begin_12
  refine px_icmp_lt hC 11 dX3_begin_2 (by decide) (fun q9 => absurd q9 (nI_nlt (by omega) hn')) (fun _ => ?_)
  refine px_iload_n hC 1 rfl dX3_begin_5 ?_
  refine px_bipush (v := nI 10) hC (by decide) dX3_begin_6 ?_
  by_cases h3 : 10 < n'
  · refine px_icmp_le hC 13 dX3_begin_8 (by decide) (fun q9 => absurd q9 (nI_ge h3 hn')) (fun _ => ?_)
    refine px_iconst (v := nI 0) hC (by decide) dX3_begin_11 ?_
    subst hQ
    exact px_zret hC rfl (by decide) (⟨_, rfl, rfl, Or.inr ⟨fun ⟨i, e1, h, h3⟩ => by have := nI_inj2 hn' (by omega) e1; omega, rfl, rfl⟩⟩) dX3_begin_12
  refine px_icmp_le hC 13 dX3_begin_8 (by decide) (fun _ => ?_) (fun q9 => (q9 (nI_le (by omega) (by decide))).elim)
  have loop : ∀ (d i : Nat) (g : Nat → va_E), i + d = 10 → (∀ j, j < i → px_at L g (ra j) (aI E 11 (fun _ => nI 0))) → (∀ c, (∀ j, j < i → c ≠ ra j) → g c = f c) → px p l e (px_rm 1 23) s m [.ref rr, .int (nI n')].toArray below meth c 3 E A s.heap L (g) 0 0 Q 15 [(0, .ref rr), (1, .int (nI n')), (2, .int (nI i))] [] := by
    intro d
    induction d with
    | zero =>
      intro i g hi hz hf
      have e1 : i = 10 := by omega
      subst e1
      have kq : ∀ {c x}, px_at L f c x → (knd x == 0) = false → px_at L g c x := fun h hk => h.fr (hf _ (fun j hj => h.nk (hra j hj) hk))
      have hq2 := kq hq rfl
      have hra2 := hz
      have hnr : ∀ j, j < 10 → ra j ≠ rr := fun j hj => (hz j hj).nk hq2 rfl
      refine px_iload_n hC 2 rfl dX3_begin_15 ?_
      refine px_bipush (v := nI 10) hC (by decide) dX3_begin_16 ?_
      refine px_icmp_ge hC 37 dX3_begin_18 (by decide) (fun _ => ?_) (fun q9 => (q9 (by decide)).elim)
      refine px_aload_n hC 0 rfl dX3_begin_37 ?_
      refine px_iload_n hC 1 rfl dX3_begin_38 ?_
      refine px_put (C := RX3) (T := TX3) (N := 7) (fs' := xF sy nm dn el lt (nI n') (nI td)) hC hq2 rfl kkX3_begin_X3 5 (by decide) tyX3 tyX3_ok nmX3 flX3_begin_35 rfl rfl rfl (Nat.le_of_ble_eq_true rfl) rfl dX3_begin_39 ?_
      refine px_aload_n hC 0 rfl dX3_begin_42 ?_
      refine px_iconst (v := nI 0) hC (by decide) dX3_begin_43 ?_
      refine px_put (C := RX3) (T := TX3) (N := 7) (fs' := xF sy nm dn el lt (nI n') (nI 0)) hC hq2.self rfl kkX3_begin_X3 6 (by decide) tyX3 tyX3_ok nmX3 flX3_begin_39 rfl (by decide) (by decide) (Nat.le_of_ble_eq_true rfl) rfl dX3_begin_44 ?_
      rw [px_uu]
      refine px_iconst (v := nI 1) hC (by decide) dX3_begin_47 ?_
      have hEr := hG.2.2 rr (Or.inl rfl)
      have hEa : ∀ c, eA el cs np od wk ad0 c → (va_up g rr (.inr (2, xF sy nm dn el lt (nI n') (nI 0)))) c = f c := fun c hc => by
        rw [va_up_ne _ _ (show c ≠ rr from fun h => hEr (h ▸ hc))]
        exact hf c (fun j hj h => hG.2.2 (ra j) (Or.inr (Or.inr (Or.inr (Or.inr (Or.inr (Or.inr (Or.inr (Or.inr (Or.inr ⟨j, hj, rfl⟩))))))))) (h ▸ hc))
      have kk : ∀ {c x}, px_at L f c x → (knd x == 0) = false → c ≠ rr → (va_up g rr (.inr (2, xF sy nm dn el lt (nI n') (nI 0)))) c = f c := fun h hk hc => by
        rw [va_up_ne _ _ hc]
        exact hf _ (fun j hj => h.nk (hra j hj) hk)
      subst hQ
      exact px_zret hC rfl (by decide) (⟨_, rfl, rfl, Or.inl ⟨n', rfl, by omega, by omega, rfl, ⟨hG, by omega, by omega, by decide, hq2.self, ⟨sr, hsy.fr (kk hsy rfl (hsy.nk hq rfl)), hsr⟩, fun j hj => (hz j hj).up (hnr j hj), hnm.fr (kk hnm rfl (hnm.nk hq rfl)), hdn.fr (kk hdn rfl (hdn.nk hq rfl)), eOK_fr hE hEa, lOK_fr hL (kk g2 rfl (g2.nk hq rfl)) (kk g3 rfl (g3.nk hq rfl)) (kk g4 rfl (g4.nk hq rfl)) (kk g5 rfl (g5.nk hq rfl)) (kk g6 rfl (g6.nk hq rfl))⟩, fun c hc => by rw [va_up_ne _ _ (fun h => hc (Or.inl h))]; exact hf c (fun j hj h => hc (Or.inr (Or.inr (Or.inr (Or.inr (Or.inr (Or.inr (Or.inr (Or.inr (Or.inr (Or.inr ⟨j, hj, h⟩)))))))))))⟩⟩) dX3_begin_48
    | succ d ih =>
      intro i g hi hz hf
      have kq : ∀ {c x}, px_at L f c x → (knd x == 0) = false → px_at L g c x := fun h hk => h.fr (hf _ (fun j hj => h.nk (hra j (by omega)) hk))
      have hri : px_at L g (ra i) (aI E 11 (w i)) := (hra i (by omega)).fr (hf _ (fun j hj h => by have := hG.1 _ _ (by omega) (by omega) h; omega))
      refine px_iload_n hC 2 rfl dX3_begin_15 ?_
      refine px_bipush (v := nI 10) hC (by decide) dX3_begin_16 ?_
      refine px_icmp_ge hC 37 dX3_begin_18 (by decide) (fun q9 => absurd q9 (nI_ge (by omega) (by omega))) (fun _ => ?_)
      refine px_aload_n hC 0 rfl dX3_begin_21 ?_
      refine px_get (C := RX3) (T := TX3) (N := 7) hC (kq hq rfl) rfl kkX3_begin_X3 0 (by decide) flX3_begin_11 rfl dX3_begin_22 ?_
      refine px_iload_n hC 2 rfl dX3_begin_25 ?_
      refine px_aald (t0 := 3) hC (kq hsy rfl) rfl rfl (by omega) (by first | decide | assumption | omega) (hsr i (by omega)) dX3_begin_26 ?_
      refine px_iconst (v := nI 0) hC (by decide) dX3_begin_27 ?_
      refine px_callSv (st := []) (nn := 2) hC (c_fillI l E L g (ra i) 11 (w i) (nI 0) hri (by decide)) gX3_begin_J7_fill_53178 rfl (by decide +kernel) (by decide) (Nat.le_of_ble_eq_true rfl) (by decide) rfl rfl dX3_begin_28 (fun f2 h4 => ?_)
      subst h4
      refine px_iinc (v := nI (i + 1)) (lv' := [(0, .ref rr), (1, .int (nI n')), (2, .int (nI (i + 1)))]) hC 2 [1, 2, 0] dX3_begin_31 rfl (nI_1 i) (by decide) rfl ?_
      refine px_goto hC 15 dX3_begin_34 (by decide) ?_
      refine ih (i + 1) _ (by omega) (fun j hj => ?_) (fun c hc => ?_)
      · by_cases q : j = i
        · subst q; exact hri.self
        · exact (hz j (by omega)).up (fun h => q (hG.1 _ _ (by omega) (by omega) h))
      · rw [va_up_ne _ _ (hc i (by omega))]
        exact hf c (fun j hj => hc j (by omega))
  refine px_iconst (v := nI 0) hC (by decide) dX3_begin_13 ?_
  refine px_istore_n (lv' := [(0, .ref rr), (1, .int (nI n')), (2, .int (nI 0))]) hC [1, 2, 0] dX3_begin_14 (by decide) rfl ?_
  exact loop 10 0 f (by omega) (fun j hj => absurd hj (by omega)) (fun c _ => rfl)
theorem c_solve (l : Launch) (hX : XS E L f rr sy nm dn el lt cs np od wk tp bt ot ob ad0 ra n w td nu de) : px_M l yX3_solve wsX3_solve (px_rm 6 147) E L f [.ref rr] (px_i L (fun z f' => ∃ td' nu' de', XS E L f' rr sy nm dn el lt cs np od wk tp bt ot ob ad0 ra n w td' nu' de' ∧ (∀ c, ¬ fX rr sy nm dn el lt cs np od wk tp bt ot ob ad0 ra c → f' c = f c) ∧ sR n (mA w n) z td' nu' de')) := by
  refine px_M.of (cc := cX3_solve) (maxL := 2) (ret := (some .int)) (lv := [(0, .ref rr)]) (by decide) rfl (Nat.le_of_ble_eq_true rfl) rfl ?_
  intro p e s m below meth c A hC hnm
  obtain ⟨Q, hQ⟩ : ∃ Q, Q = MQ below (px_Q E (px_i L (fun z f' => ∃ td' nu' de', XS E L f' rr sy nm dn el lt cs np od wk tp bt ot ob ad0 ra n w td' nu' de' ∧ (∀ c, ¬ fX rr sy nm dn el lt cs np od wk tp bt ot ob ad0 ra c → f' c = f c) ∧ sR n (mA w n) z td' nu' de')) A) [.ref rr].toArray s (px_rm 6 147).cells (px_rm 6 147).slots A := ⟨_, rfl⟩
  rw [← hQ]
  obtain ⟨hG, h1n, hn, htd, hq, ⟨sr, hsy, hsr⟩, hra, hnm, hdn, hE, hL⟩ := hX
  obtain ⟨g1, ⟨nu0, de0, g2⟩, ⟨r1, g3⟩, ⟨r2, g4⟩, ⟨r3, g5⟩, ⟨r4, g6⟩⟩ := id hL
  have nE := hG.2.2
  have nErr := nE rr (Or.inl rfl)
  have nEsy := nE sy (Or.inr (Or.inl rfl))
  have nEnm := nE nm (Or.inr (Or.inr (Or.inl rfl)))
  have nEdn := nE dn (Or.inr (Or.inr (Or.inr (Or.inl rfl))))
  have nElt := nE lt (Or.inr (Or.inr (Or.inr (Or.inr (Or.inl rfl)))))
  have nEtp := nE tp (Or.inr (Or.inr (Or.inr (Or.inr (Or.inr (Or.inl rfl))))))
  have nEbt := nE bt (Or.inr (Or.inr (Or.inr (Or.inr (Or.inr (Or.inr (Or.inl rfl)))))))
  have nEot := nE ot (Or.inr (Or.inr (Or.inr (Or.inr (Or.inr (Or.inr (Or.inr (Or.inl rfl))))))))
  have nEob := nE ob (Or.inr (Or.inr (Or.inr (Or.inr (Or.inr (Or.inr (Or.inr (Or.inr (Or.inl rfl)))))))))
  have nEra : ∀ i, i < 10 → ¬ eA el cs np od wk ad0 (ra i) := fun i hi => nE (ra i) (Or.inr (Or.inr (Or.inr (Or.inr (Or.inr (Or.inr (Or.inr (Or.inr (Or.inr ⟨i, hi, rfl⟩)))))))))
  have hfE : ∀ c, ¬ fX rr sy nm dn el lt cs np od wk tp bt ot ob ad0 ra c → c ≠ rr ∧ c ≠ nm ∧ c ≠ dn ∧ ¬ eA el cs np od wk ad0 c ∧ c ≠ lt ∧ c ≠ tp ∧ c ≠ bt ∧ c ≠ ot ∧ c ≠ ob := fun c hc => ⟨fun h => hc (Or.inl h), fun h => hc (Or.inr (Or.inr (Or.inl h))), fun h => hc (Or.inr (Or.inr (Or.inr (Or.inl h)))), fun h => hc (Or.inr (Or.inr (Or.inr (Or.inr (Or.inl h))))), fun h => hc (Or.inr (Or.inr (Or.inr (Or.inr (Or.inr (Or.inl h)))))), fun h => hc (Or.inr (Or.inr (Or.inr (Or.inr (Or.inr (Or.inr (Or.inl h))))))), fun h => hc (Or.inr (Or.inr (Or.inr (Or.inr (Or.inr (Or.inr (Or.inr (Or.inl h)))))))), fun h => hc (Or.inr (Or.inr (Or.inr (Or.inr (Or.inr (Or.inr (Or.inr (Or.inr (Or.inl h))))))))), fun h => hc (Or.inr (Or.inr (Or.inr (Or.inr (Or.inr (Or.inr (Or.inr (Or.inr (Or.inr (Or.inl h))))))))))⟩
  -- the rows nm, dn are of another length than the limbs
  have len : ∀ {c r z r2}, px_at L f c (aJ E 10 r) → px_at L f z (aJ E 21 r2) → c ≠ z := fun h1 h2 => h1.ne h2 (fun e => by
    have := congrArg (fun z : va_E => match z with | .inl (_, k, _) => k | _ => 0) e
    exact absurd (show (10 : Nat) = 21 from this) (by decide))
  have nmL : nm ≠ lt ∧ nm ≠ tp ∧ nm ≠ bt ∧ nm ≠ ot ∧ nm ≠ ob := ⟨hnm.nk g2 rfl, len hnm g3, len hnm g4, len hnm g5, len hnm g6⟩
  have dnL : dn ≠ lt ∧ dn ≠ tp ∧ dn ≠ bt ∧ dn ≠ ot ∧ dn ≠ ob := ⟨hdn.nk g2 rfl, len hdn g3, len hdn g4, len hdn g5, len hdn g6⟩
  have rrL : rr ≠ lt ∧ rr ≠ tp ∧ rr ≠ bt ∧ rr ≠ ot ∧ rr ≠ ob := ⟨hq.nk g2 rfl, hq.nk g3 rfl, hq.nk g4 rfl, hq.nk g5 rfl, hq.nk g6 rfl⟩
  have syL : sy ≠ lt ∧ sy ≠ tp ∧ sy ≠ bt ∧ sy ≠ ot ∧ sy ≠ ob := ⟨hsy.nk g2 rfl, hsy.nk g3 rfl, hsy.nk g4 rfl, hsy.nk g5 rfl, hsy.nk g6 rfl⟩
  have raL : ∀ i, i < 10 → ra i ≠ lt ∧ ra i ≠ tp ∧ ra i ≠ bt ∧ ra i ≠ ot ∧ ra i ≠ ob := fun i hi => ⟨(hra i hi).nk g2 rfl, (hra i hi).nk g3 rfl, (hra i hi).nk g4 rfl, (hra i hi).nk g5 rfl, (hra i hi).nk g6 rfl⟩
  have nmr : nm ≠ rr := hnm.nk hq rfl
  have dnr : dn ≠ rr := hdn.nk hq rfl
  have syr : sy ≠ rr := hsy.nk hq rfl
  have rar : ∀ i, i < 10 → ra i ≠ rr := fun i hi => (hra i hi).nk hq rfl
  refine px_aload_n hC 0 rfl dX3_solve_0 ?_
  refine px_iconst (v := nI 0) hC (by decide) dX3_solve_1 ?_
  refine px_put (C := RX3) (T := TX3) (N := 7) (fs' := xF sy nm dn el lt (nI n) (nI 0)) hC hq rfl kkX3_solve_X3 6 (by decide) tyX3 tyX3_ok nmX3 flX3_solve_39 rfl (by decide) (by decide) (Nat.le_of_ble_eq_true rfl) rfl dX3_solve_2 ?_
  refine px_aload_n hC 0 rfl dX3_solve_5 ?_
  refine px_get (C := RX3) (T := TX3) (N := 7) hC hq.self rfl kkX3_solve_X3 3 (by decide) flX3_solve_24 rfl dX3_solve_6 ?_
  refine px_aload_n hC 0 rfl dX3_solve_9 ?_
  refine px_get (C := RX3) (T := TX3) (N := 7) hC hq.self rfl kkX3_solve_X3 0 (by decide) flX3_solve_11 rfl dX3_solve_10 ?_
  refine px_aload_n hC 0 rfl dX3_solve_13 ?_
  refine px_get (C := RX3) (T := TX3) (N := 7) hC hq.self rfl kkX3_solve_X3 5 (by decide) flX3_solve_35 rfl dX3_solve_14 ?_
  obtain ⟨crx, adx, szx, ebx, twx, ivx, mwx, wwx, hqe0, -⟩ := id hE
  have hqe := hqe0.up (y := .inr (2, xF sy nm dn el lt (nI n) (nI 0))) (fun h => hq.nk hqe0 rfl h.symm)
  refine px_callVi (C := RX0) (T := TX0) (N := 10) (st := []) (nn := 2) hC (c_reduce l E L _ el n sy (ra := ra) (w := w) (eOK_fr hE (fun c hc => va_up_ne _ _ (fun h => nErr (h ▸ hc)))) h1n hn (hsy.up syr) (fun i hi => ⟨hsr i hi, (hra i hi).up (rar i hi)⟩)) hqe rfl gX3_solve_X0_reduce rfl (by decide +kernel) (by decide) (Nat.le_of_ble_eq_true rfl) (by decide) rfl rfl dX3_solve_17 (fun z f2 h2 => ?_)
  obtain ⟨hE2, hf2, h2⟩ := h2
  have k2 : ∀ {c x}, px_at L f c x → c ≠ rr → ¬ eA el cs np od wk ad0 c → px_at L f2 c x := fun h a1 a2 => h.fr (by rw [hf2 _ a2, va_up_ne _ _ a1])
  have hq2 : px_at L f2 rr (.inr (2, xF sy nm dn el lt (nI n) (nI 0))) := hq.self.fr (hf2 rr nErr)
  have hsy2 := k2 hsy syr nEsy
  have hra2 := fun i hi => k2 (hra i hi) (rar i hi) (nEra i hi)
  have hnm2 := k2 hnm nmr nEnm
  have hdn2 := k2 hdn dnr nEdn
  have hL2 : lOK E L f2 lt tp bt ot ob := lOK_fr hL (by rw [hf2 _ nElt, va_up_ne _ _ (fun h => rrL.1 h.symm)]) (by rw [hf2 _ nEtp, va_up_ne _ _ (fun h => rrL.2.1 h.symm)]) (by rw [hf2 _ nEbt, va_up_ne _ _ (fun h => rrL.2.2.1 h.symm)]) (by rw [hf2 _ nEot, va_up_ne _ _ (fun h => rrL.2.2.2.1 h.symm)]) (by rw [hf2 _ nEob, va_up_ne _ _ (fun h => rrL.2.2.2.2 h.symm)])
  have fr2 : ∀ c, ¬ fX rr sy nm dn el lt cs np od wk tp bt ot ob ad0 ra c → f2 c = f c := fun c hc => by rw [hf2 c (hfE c hc).2.2.2.1, va_up_ne _ _ (hfE c hc).1]
  rcases h2 with ⟨hb, rfl⟩ | ⟨d, M, hb, rfl, hR⟩
  · refine px_if_ne hC 25 dX3_solve_20 (by decide) (fun q9 => (q9 (by decide)).elim) (fun _ => ?_)
    refine px_iconst (v := (-1)) hC (by decide) dX3_solve_23 ?_
    subst hQ
    exact px_iret hC rfl (⟨_, rfl, rfl, 0, nu, de, ⟨hG, h1n, hn, by decide, hq2, ⟨sr, hsy2, hsr⟩, hra2, hnm2, hdn2, hE2, hL2⟩, fr2, Or.inl ⟨hb, rfl, rfl⟩⟩) dX3_solve_24
  obtain ⟨cr, ad, eb, tw, iv, mw, ww, hrg, heb, qq, qc, qD, qM, qd, hd0, hdw⟩ := eR_rng hE2 hR
  have inA : ∀ t, t < 110 → eA el cs np od wk ad0 (ad t) := fun t ht => by
    obtain ⟨u, hu, e⟩ := hrg t ht
    exact Or.inr (Or.inr (Or.inr (Or.inr (Or.inr ⟨u, hu, e⟩))))
  have hw1 : (n * eb + 23) / 32 + 1 ≤ 21 := by
    have : n * eb ≤ 10 * 31 := Nat.mul_le_mul hn heb
    omega
  have loop : ∀ (u k : Nat) (g : Nat → va_E) (nu' de' : Nat → Int64), k + u = n → (∀ c, c ≠ lt → c ≠ tp → c ≠ bt → c ≠ ot → c ≠ ob → c ≠ nm → c ≠ dn → g c = f2 c) → lOK E L g lt tp bt ot ob → px_at L g nm (aJ E 10 nu') → px_at L g dn (aJ E 10 de') → (∀ j, j < k → fit (M j n) d ∧ (nu' j).toInt = fN (M j n) d ∧ (de' j).toInt = fM (M j n) d) → px p l e (px_rm 6 147) s m [.ref rr].toArray below meth c 2 E A s.heap L (g) 0 0 Q 27 [(0, .ref rr), (1, .int (nI k))] [] := by
    intro u
    induction u with
    | zero =>
      intro k g nu' de' hk hg hLg hng hdg hj
      have e1 : k = n := by omega
      subst e1
      have hqg : px_at L g rr (.inr (2, xF sy nm dn el lt (nI k) (nI 0))) := hq2.fr (hg rr rrL.1 rrL.2.1 rrL.2.2.1 rrL.2.2.2.1 rrL.2.2.2.2 (fun h => nmr h.symm) (fun h => dnr h.symm))
      obtain ⟨-, ⟨nu9, de9, c2⟩, ⟨t1, c3⟩, ⟨t2, c4⟩, ⟨t3, c5⟩, ⟨t4, c6⟩⟩ := id hLg
      refine px_iload_n hC 1 rfl dX3_solve_27 ?_
      refine px_aload_n hC 0 rfl dX3_solve_28 ?_
      refine px_get (C := RX3) (T := TX3) (N := 7) hC hqg rfl kkX3_solve_X3 5 (by decide) flX3_solve_35 rfl dX3_solve_29 ?_
      refine px_icmp_ge hC 103 dX3_solve_32 (by decide) (fun _ => ?_) (fun q9 => (q9 (nI_le (Nat.le_refl k) (by omega))).elim)
      refine px_aload_n hC 0 rfl dX3_solve_103 ?_
      refine px_iconst (v := nI 1) hC (by decide) dX3_solve_104 ?_
      refine px_put (C := RX3) (T := TX3) (N := 7) (fs' := xF sy nm dn el lt (nI k) (nI 1)) hC hqg rfl kkX3_solve_X3 6 (by decide) tyX3 tyX3_ok nmX3 flX3_solve_39 rfl (by decide) (by decide) (Nat.le_of_ble_eq_true rfl) rfl dX3_solve_105 ?_
      refine px_iconst (v := nI 0) hC (by decide) dX3_solve_108 ?_
      subst hQ
      exact px_iret hC rfl (⟨_, rfl, rfl, 1, nu', de', ⟨hG, h1n, hn, by decide, hqg.self, ⟨sr, (hsy2.fr (hg sy syL.1 syL.2.1 syL.2.2.1 syL.2.2.2.1 syL.2.2.2.2 (hsy.nk hnm rfl) (hsy.nk hdn rfl))).up syr, hsr⟩, fun i hi => ((hra2 i hi).fr (hg (ra i) (raL i hi).1 (raL i hi).2.1 (raL i hi).2.2.1 (raL i hi).2.2.2.1 (raL i hi).2.2.2.2 ((hra i hi).nk hnm rfl) ((hra i hi).nk hdn rfl))).up (rar i hi), hng.up nmr, hdg.up dnr, eOK_fr hE2 (fun c hc => by rw [va_up_ne _ _ (show c ≠ rr from fun h => nErr (h ▸ hc))]; exact hg c (fun h => nElt (h ▸ hc)) (fun h => nEtp (h ▸ hc)) (fun h => nEbt (h ▸ hc)) (fun h => nEot (h ▸ hc)) (fun h => nEob (h ▸ hc)) (fun h => nEnm (h ▸ hc)) (fun h => nEdn (h ▸ hc))), lOK_fr hLg (va_up_ne _ _ (fun h => rrL.1 h.symm)) (va_up_ne _ _ (fun h => rrL.2.1 h.symm)) (va_up_ne _ _ (fun h => rrL.2.2.1 h.symm)) (va_up_ne _ _ (fun h => rrL.2.2.2.1 h.symm)) (va_up_ne _ _ (fun h => rrL.2.2.2.2 h.symm))⟩, fun c hc => by obtain ⟨b1, b2, b3, b4, b5, b6, b7, b8, b9⟩ := hfE c hc; rw [va_up_ne _ _ b1, hg c b5 b6 b7 b8 b9 b2 b3]; exact fr2 c hc, Or.inr ⟨d, M, hb, Or.inr ⟨fun j hj2 => (hj j hj2).1, rfl, rfl, fun j hj2 => (hj j hj2).2⟩⟩⟩) dX3_solve_109
    | succ u ih =>
      intro k g nu' de' hk hg hLg hng hdg hj
      have gA : ∀ c, eA el cs np od wk ad0 c → g c = f2 c := fun c hc => hg c (fun h => nElt (h ▸ hc)) (fun h => nEtp (h ▸ hc)) (fun h => nEbt (h ▸ hc)) (fun h => nEot (h ▸ hc)) (fun h => nEob (h ▸ hc)) (fun h => nEnm (h ▸ hc)) (fun h => nEdn (h ▸ hc))
      have hqg : px_at L g rr (.inr (2, xF sy nm dn el lt (nI n) (nI 0))) := hq2.fr (hg rr rrL.1 rrL.2.1 rrL.2.2.1 rrL.2.2.2.1 rrL.2.2.2.2 (fun h => nmr h.symm) (fun h => dnr h.symm))
      have qqg := qq.fr (gA el (Or.inl rfl))
      have qcg := qc.fr (gA cs (Or.inr (Or.inl rfl)))
      have qMg := (qM k (by omega)).1.fr (gA _ (inA (k * 11 + n) (by omega)))
      have qdg := qd.fr (gA _ (inA ((n - 1) * 11 + (n - 1)) (by omega)))
      have ane : ∀ t, t < 110 → ad t ≠ tp ∧ ad t ≠ bt ∧ ad t ≠ ot ∧ ad t ≠ ob := fun t ht => ⟨fun h => nEtp (h ▸ inA t ht), fun h => nEbt (h ▸ inA t ht), fun h => nEot (h ▸ inA t ht), fun h => nEob (h ▸ inA t ht)⟩
      obtain ⟨-, ⟨nu9, de9, c2⟩, -⟩ := id hLg
      refine px_iload_n hC 1 rfl dX3_solve_27 ?_
      refine px_aload_n hC 0 rfl dX3_solve_28 ?_
      refine px_get (C := RX3) (T := TX3) (N := 7) hC hqg rfl kkX3_solve_X3 5 (by decide) flX3_solve_35 rfl dX3_solve_29 ?_
      refine px_icmp_ge hC 103 dX3_solve_32 (by decide) (fun q9 => absurd q9 (nI_ge (by omega) (by omega))) (fun _ => ?_)
      refine px_aload_n hC 0 rfl dX3_solve_35 ?_
      refine px_get (C := RX3) (T := TX3) (N := 7) hC hqg rfl kkX3_solve_X3 4 (by decide) flX3_solve_31 rfl dX3_solve_36 ?_
      refine px_aload_n hC 0 rfl dX3_solve_39 ?_
      refine px_get (C := RX3) (T := TX3) (N := 7) hC hqg rfl kkX3_solve_X3 3 (by decide) flX3_solve_24 rfl dX3_solve_40 ?_
      refine px_iload_n hC 1 rfl dX3_solve_43 ?_
      refine px_callVr (C := RX0) (T := TX0) (N := 10) (st := [.ref lt]) (nn := 1) hC (c_dividend l E L g el k n qqg qcg (qD.1 _ (by omega)) (by omega)) qqg rfl gX3_solve_X0_dividend rfl (by decide +kernel) (by decide) (Nat.le_of_ble_eq_true rfl) (by decide) rfl rfl dX3_solve_44 (fun z1 f3 h3 => ?_)
      obtain ⟨rfl, rfl⟩ := h3
      refine px_aload_n hC 0 rfl dX3_solve_47 ?_
      refine px_get (C := RX3) (T := TX3) (N := 7) hC hqg rfl kkX3_solve_X3 3 (by decide) flX3_solve_24 rfl dX3_solve_48 ?_
      refine px_callVr (C := RX0) (T := TX0) (N := 10) (st := [.ref (ad (k * 11 + n)), .ref lt]) (nn := 0) hC (c_divisor l E L _ el n qqg qcg h1n (qD.1 _ (by omega)) (by omega)) qqg rfl gX3_solve_X0_divisor rfl (by decide +kernel) (by decide) (Nat.le_of_ble_eq_true rfl) (by decide) rfl rfl dX3_solve_51 (fun z2 f4 h4 => ?_)
      obtain ⟨rfl, rfl⟩ := h4
      refine px_aload_n hC 0 rfl dX3_solve_54 ?_
      refine px_get (C := RX3) (T := TX3) (N := 7) hC hqg rfl kkX3_solve_X3 3 (by decide) flX3_solve_24 rfl dX3_solve_55 ?_
      refine px_callVi (C := RX0) (T := TX0) (N := 10) (st := [.ref (ad ((n - 1) * 11 + (n - 1))), .ref (ad (k * 11 + n)), .ref lt]) (nn := 0) hC (c_width l E L _ el n qqg hn heb) qqg rfl gX3_solve_X0_width rfl (by decide +kernel) (by decide) (Nat.le_of_ble_eq_true rfl) (by decide) rfl rfl dX3_solve_58 (fun z3 f5 h5 => ?_)
      obtain ⟨rfl, rfl⟩ := h5
      refine px_callVi (C := RX2) (T := TX2) (N := 6) (st := []) (nn := 3) hC (c_find l E L _ lt (ad (k * 11 + n)) (ad ((n - 1) * 11 + (n - 1))) ((n * eb + 23) / 32 + 1) hLg qMg qdg hd0 (ane _ (by omega)) (ane _ (by omega)) (by omega) hw1 (by have := (qM k (by omega)).2; omega) (by omega)) c2 rfl gX3_solve_X2_find rfl (by decide +kernel) (by decide) (Nat.le_of_ble_eq_true rfl) (by decide) rfl rfl dX3_solve_61 (fun z4 f6 h6 => ?_)
      obtain ⟨hL6, hf6, h6⟩ := h6
      have hq6 : px_at L f6 rr (.inr (2, xF sy nm dn el lt (nI n) (nI 0))) := hqg.fr (hf6 rr rrL.1 rrL.2.1 rrL.2.2.1 rrL.2.2.2.1 rrL.2.2.2.2)
      have hn6 := hng.fr (hf6 nm nmL.1 nmL.2.1 nmL.2.2.1 nmL.2.2.2.1 nmL.2.2.2.2)
      have hd6 := hdg.fr (hf6 dn dnL.1 dnL.2.1 dnL.2.2.1 dnL.2.2.2.1 dnL.2.2.2.2)
      have hg6 : ∀ c, c ≠ lt → c ≠ tp → c ≠ bt → c ≠ ot → c ≠ ob → c ≠ nm → c ≠ dn → f6 c = f2 c := fun c a1 a2 a3 a4 a5 a6 a7 => by rw [hf6 c a1 a2 a3 a4 a5]; exact hg c a1 a2 a3 a4 a5 a6 a7
      rcases h6 with ⟨rfl, hfit, nu1, de1, e1, e2, h6⟩ | ⟨rfl, hfit⟩
      · have nuU : ∀ j, j < k + 1 → fit (M j n) d ∧ (vp_updL nu' k nu1 j).toInt = fN (M j n) d ∧ (vp_updL de' k de1 j).toInt = fM (M j n) d := fun j hj2 => by
          by_cases q : j = k
          · subst q; rw [pk_uLs, pk_uLs]; exact ⟨hfit, e1, e2⟩
          · rw [pk_uLn q, pk_uLn q]; exact hj j (by omega)
        refine px_if_ne hC 71 dX3_solve_64 (by decide) (fun _ => ?_) (fun q9 => absurd q9 (by decide))
        refine px_aload_n hC 0 rfl dX3_solve_71 ?_
        refine px_get (C := RX3) (T := TX3) (N := 7) hC hq6 rfl kkX3_solve_X3 1 (by decide) flX3_solve_14 rfl dX3_solve_72 ?_
        refine px_iload_n hC 1 rfl dX3_solve_75 ?_
        refine px_aload_n hC 0 rfl dX3_solve_76 ?_
        refine px_get (C := RX3) (T := TX3) (N := 7) hC hq6 rfl kkX3_solve_X3 4 (by decide) flX3_solve_31 rfl dX3_solve_77 ?_
        refine px_getN (C := RX2) (T := TX2) (N := 6) hC h6 rfl kkX3_solve_X2 4 (by decide) (va_Nw.use rfl hC.2.2.2.2.2.2.2.1.2.2.2.1) rfl dX3_solve_80 ?_
        refine px_last hC hn6 (by omega) (by first | decide | assumption | omega) dX3_solve_83 ?_
        refine px_aload_n hC 0 rfl dX3_solve_84 ?_
        refine px_get (C := RX3) (T := TX3) (N := 7) hC (hq6.up (fun h => nmr h.symm)) rfl kkX3_solve_X3 2 (by decide) flX3_solve_18 rfl dX3_solve_85 ?_
        refine px_iload_n hC 1 rfl dX3_solve_88 ?_
        refine px_aload_n hC 0 rfl dX3_solve_89 ?_
        refine px_get (C := RX3) (T := TX3) (N := 7) hC (hq6.up (fun h => nmr h.symm)) rfl kkX3_solve_X3 4 (by decide) flX3_solve_31 rfl dX3_solve_90 ?_
        refine px_getN (C := RX2) (T := TX2) (N := 6) hC (h6.up (fun h => nmL.1 h.symm)) rfl kkX3_solve_X2 5 (by decide) (va_Nw.use rfl hC.2.2.2.2.2.2.2.1.2.2.2.2.1) rfl dX3_solve_93 ?_
        refine px_last hC (hd6.up (fun h => hG.2.1 h.symm)) (by omega) (by first | decide | assumption | omega) dX3_solve_96 ?_
        refine px_iinc (v := nI (k + 1)) (lv' := [(0, .ref rr), (1, .int (nI (k + 1)))]) hC 1 [1, 0] dX3_solve_97 rfl (nI_1 k) (by decide) rfl ?_
        refine px_goto hC 27 dX3_solve_100 (by decide) ?_
        have up2 : ∀ c, c ≠ nm → c ≠ dn → va_up (va_up f6 nm (aJ E 10 (vp_updL nu' k nu1))) dn (aJ E 10 (vp_updL de' k de1)) c = f6 c := fun c a1 a2 => by rw [va_up_ne _ _ a2, va_up_ne _ _ a1]
        exact ih (k + 1) _ (vp_updL nu' k nu1) (vp_updL de' k de1) (by omega) (fun c a1 a2 a3 a4 a5 a6 a7 => by rw [up2 c a6 a7]; exact hg6 c a1 a2 a3 a4 a5 a6 a7) (lOK_fr hL6 (up2 lt (fun h => nmL.1 h.symm) (fun h => dnL.1 h.symm)) (up2 tp (fun h => nmL.2.1 h.symm) (fun h => dnL.2.1 h.symm)) (up2 bt (fun h => nmL.2.2.1 h.symm) (fun h => dnL.2.2.1 h.symm)) (up2 ot (fun h => nmL.2.2.2.1 h.symm) (fun h => dnL.2.2.2.1 h.symm)) (up2 ob (fun h => nmL.2.2.2.2 h.symm) (fun h => dnL.2.2.2.2 h.symm))) (hn6.self.up hG.2.1) ((hd6.up (fun h => hG.2.1 h.symm)).self) nuU
      · refine px_if_ne hC 71 dX3_solve_64 (by decide) (fun q9 => (q9 (by decide)).elim) (fun _ => ?_)
        refine px_iconst (v := nI 1) hC (by decide) dX3_solve_67 ?_
        refine px_iload_n hC 1 rfl dX3_solve_68 ?_
        refine px_iadd hC dX3_solve_69 ?_
        refine px_ei (y := nI (1 + k)) (nI_add _ _) ?_
        subst hQ
        exact px_iret hC rfl (⟨_, rfl, rfl, 0, nu', de', ⟨hG, h1n, hn, by decide, hq6, ⟨sr, hsy2.fr (hg6 sy syL.1 syL.2.1 syL.2.2.1 syL.2.2.2.1 syL.2.2.2.2 (hsy.nk hnm rfl) (hsy.nk hdn rfl)), hsr⟩, fun i hi => (hra2 i hi).fr (hg6 (ra i) (raL i hi).1 (raL i hi).2.1 (raL i hi).2.2.1 (raL i hi).2.2.2.1 (raL i hi).2.2.2.2 ((hra i hi).nk hnm rfl) ((hra i hi).nk hdn rfl)), hn6, hd6, eOK_fr hE2 (fun c hc => hg6 c (fun h => nElt (h ▸ hc)) (fun h => nEtp (h ▸ hc)) (fun h => nEbt (h ▸ hc)) (fun h => nEot (h ▸ hc)) (fun h => nEob (h ▸ hc)) (fun h => nEnm (h ▸ hc)) (fun h => nEdn (h ▸ hc))), hL6⟩, fun c hc => by obtain ⟨b1, b2, b3, b4, b5, b6, b7, b8, b9⟩ := hfE c hc; rw [hg6 c b5 b6 b7 b8 b9 b2 b3]; exact fr2 c hc, Or.inr ⟨d, M, hb, Or.inl ⟨k, by omega, fun j hj2 => (hj j hj2).1, hfit, rfl, rfl⟩⟩⟩) dX3_solve_70
  refine px_if_ne hC 25 dX3_solve_20 (by decide) (fun _ => ?_) (fun q9 => absurd q9 (by decide))
  refine px_iconst (v := nI 0) hC (by decide) dX3_solve_25 ?_
  refine px_istore_n (lv' := [(0, .ref rr), (1, .int (nI 0))]) hC [1, 0] dX3_solve_26 (by decide) rfl ?_
  exact loop n 0 f2 nu de (by omega) (fun c _ _ _ _ _ _ _ => rfl) hL2 hnm2 hdn2 (fun j hj => absurd hj (by omega))
end XX
