/-! ===== the reference's fraction ===== -/
theorem qz_abs (v w : Int) : (qz v w).natAbs = v.natAbs / w.natAbs := by
  unfold qz
  generalize v.natAbs / w.natAbs = q
  split <;> omega
theorem fN_abs (D W : Int) : (fN D W).natAbs = D.natAbs / Nat.gcd D.natAbs W.natAbs := by
  unfold fN
  generalize D.natAbs / Nat.gcd D.natAbs W.natAbs = q
  split <;> omega
theorem fN_neg {D W : Int} : fN D W < 0 ↔ (D.natAbs / Nat.gcd D.natAbs W.natAbs ≠ 0 ∧ ¬ (D < 0 ↔ W < 0)) := by
  unfold fN
  generalize D.natAbs / Nat.gcd D.natAbs W.natAbs = q
  by_cases h : D < 0 ↔ W < 0
  · rw [if_pos h]
    constructor
    · intro h2; omega
    · intro h2; exact absurd h h2.2
  · rw [if_neg h]
    constructor
    · intro h2; exact ⟨by omega, h⟩
    · intro h2; omega
theorem gcd_next (a b : Nat) : Nat.gcd b (a % b) = Nat.gcd a b := by
  rw [Nat.gcd_comm b, ← Nat.gcd_rec, Nat.gcd_comm]
section MM
variable {E : px_E} {L : List Nat} {f : Nat → va_E} {mm nb ab ud mx so : Nat} {gd pd : Nat → Nat} {sz td : Int32} {r : Nat → Int32} {nu de : Nat → Int64} {pi : Nat → Nat} {V : Nat → Int}
theorem flX5_fraction_32 : Cond.fieldLink RX5 32 "RowReductionModel" "some" "[LRowReductionModel$Great;" ∈ wsX5_fraction := by decide +kernel
theorem kkX5_fraction_X5 : ∀ w ∈ wsX50, w ∈ wsX5_fraction := fun _ h => List.mem_cons_of_mem _ (List.mem_append_left _ (List.mem_append_right _ h))
theorem flX5_fraction_17 : Cond.fieldLink RX5 17 "RowReductionModel" "above" "[J" ∈ wsX5_fraction := by decide +kernel
theorem flX5_fraction_86 : Cond.fieldLink RX5 86 "RowReductionModel$Great" "value" "J" ∈ wsX5_fraction := by decide +kernel
theorem kkX5_fraction_X4 : ∀ w ∈ wsX40, w ∈ wsX5_fraction := fun _ h => List.mem_cons_of_mem _ (List.mem_append_right _ h)
theorem flX5_fraction_21 : Cond.fieldLink RX5 21 "RowReductionModel" "under" "[J" ∈ wsX5_fraction := by decide +kernel
theorem flX5_fraction_80 : Cond.fieldLink RX5 80 "RowReductionModel$Great" "minus" "Z" ∈ wsX5_fraction := by decide +kernel
theorem c_mFrac (l : Launch) (a b i : Nat) (hW : mW E L f mm nb ab ud mx so gd pd sz td r nu de pi V) (ha : a < 110) (hb : b < 110) (hi : i < 10) (h0 : V b ≠ 0) (ka : (V a).natAbs < 268435456 ^ 12) (kb : (V b).natAbs < 268435456 ^ 12) : px_M l yX5_fraction wsX5_fraction (px_rm 3 72) E L f [.ref mm, .ref (gd a), .ref (gd b), .int (nI i)] (px_i L (fun z f' => ∃ V' nu' de', mW E L f' mm nb ab ud mx so gd pd sz td r nu' de' pi V' ∧ (∀ t, t < 110 → V' t = V t) ∧ (∀ c, c ≠ ab → c ≠ ud → ¬ gA gd pd c → f' c = f c) ∧ ((z = nI 1 ∧ fit (V a) (V b) ∧ ∃ x y : Int64, x.toInt = fN (V a) (V b) ∧ y.toInt = (fM (V a) (V b) : Int) ∧ nu' = vp_updL nu i x ∧ de' = vp_updL de i y) ∨ (z = nI 0 ∧ ¬ fit (V a) (V b) ∧ nu' = nu ∧ de' = de)))) := by
  refine px_M.of (cc := cX5_fraction) (maxL := 6) (ret := (some .boolean)) (lv := [(0, .ref mm), (1, .ref (gd a)), (2, .ref (gd b)), (3, .int (nI i))]) (by decide) rfl (Nat.le_of_ble_eq_true rfl) rfl ?_
  intro p e s m below meth c A hC hnm
  obtain ⟨Q, hQ⟩ : ∃ Q, Q = MQ below (px_Q E (px_i L (fun z f' => ∃ V' nu' de', mW E L f' mm nb ab ud mx so gd pd sz td r nu' de' pi V' ∧ (∀ t, t < 110 → V' t = V t) ∧ (∀ c, c ≠ ab → c ≠ ud → ¬ gA gd pd c → f' c = f c) ∧ ((z = nI 1 ∧ fit (V a) (V b) ∧ ∃ x y : Int64, x.toInt = fN (V a) (V b) ∧ y.toInt = (fM (V a) (V b) : Int) ∧ nu' = vp_updL nu i x ∧ de' = vp_updL de i y) ∨ (z = nI 0 ∧ ¬ fit (V a) (V b) ∧ nu' = nu ∧ de' = de)))) A) [.ref mm, .ref (gd a), .ref (gd b), .int (nI i)].toArray s (px_rm 3 72).cells (px_rm 3 72).slots A := ⟨_, rfl⟩
  rw [← hQ]
  obtain ⟨hq, -, hnu, hde, -, ⟨sr, hso, hsr⟩, hU, hau, hpi, hpj⟩ := id hW
  have s1 : sr 1 = some (gd 111) := hsr 1 (by decide)
  have s2 : sr 2 = some (gd 112) := hsr 2 (by decide)
  have s3 : sr 3 = some (gd 113) := hsr 3 (by decide)
  have s4 : sr 4 = some (gd 114) := hsr 4 (by decide)
  have s5 : sr 5 = some (gd 115) := hsr 5 (by decide)
  have s6 : sr 6 = some (gd 116) := hsr 6 (by decide)
  have kq : ∀ {g : Nat → va_E}, gK gd pd f g → px_at L g mm (.inr (4, mF nb ab ud mx so sz td)) := fun hK => hq.fr (hK _ (fun q => (hW.ga q).1 rfl))
  have ks : ∀ {g : Nat → va_E}, gK gd pd f g → px_at L g so (aG E 8 sr) := fun hK => hso.fr (hK _ (fun q => (hW.ga q).2.2.2.2.2 rfl))
  have kn : ∀ {g : Nat → va_E}, gK gd pd f g → px_at L g ab (aJ E 10 nu) := fun hK => hnu.fr (hK _ (fun q => (hW.ga q).2.2.1 rfl))
  have kd : ∀ {g : Nat → va_E}, gK gd pd f g → px_at L g ud (aJ E 10 de) := fun hK => hde.fr (hK _ (fun q => (hW.ga q).2.2.2.1 rfl))
  have hG0 : 0 < Nat.gcd (V a).natAbs (V b).natAbs := Nat.gcd_pos_of_pos_right _ (by omega)
  -- both numbers in lowest terms: are they longs
  have last : ∀ (g : Nat → va_E) (W : Nat → Int), gU E L g gd pd W → gK gd pd f g → (∀ t, t < 110 → W t = V t) → W 113 = fN (V a) (V b) → W 116 = (fM (V a) (V b) : Int) → px p l e (px_rm 3 72) s m [.ref mm, .ref (gd a), .ref (gd b), .int (nI i)].toArray below meth c 6 E A s.heap L (g) 0 0 Q 161 [(0, .ref mm), (1, .ref (gd a)), (2, .ref (gd b)), (3, .int (nI i)), (4, .ref (gd 111)), (5, .ref (gd 112))] [] := by
    intro g W gu gk wt w3 w6
    have no : ∀ (h : Nat → va_E), gU E L h gd pd W → gK gd pd f h → ¬ fit (V a) (V b) → px p l e (px_rm 3 72) s m [.ref mm, .ref (gd a), .ref (gd b), .int (nI i)].toArray below meth c 6 E A s.heap L (h) 0 0 Q 186 [(0, .ref mm), (1, .ref (gd a)), (2, .ref (gd b)), (3, .int (nI i)), (4, .ref (gd 111)), (5, .ref (gd 112))] [] := by
      intro h hu hk hf
      refine px_iconst (v := nI 0) hC (by decide) dX5_fraction_186 ?_
      subst hQ
      exact px_zret hC rfl (by decide) (⟨_, rfl, rfl, W, nu, de, hW.K hu hk, wt, fun c _ _ h3 => hk c h3, Or.inr ⟨rfl, hf, rfl, rfl⟩⟩) dX5_fraction_187
    obtain ⟨pf1, at1⟩ := gu.at (show 113 < 118 by decide)
    refine px_aload_n hC 0 rfl dX5_fraction_161 ?_
    refine px_get (C := RX5) (T := TX5) (N := 7) hC (kq gk) rfl kkX5_fraction_X5 6 (by decide) flX5_fraction_32 rfl dX5_fraction_162 ?_
    refine px_iconst (v := nI 3) hC (by decide) dX5_fraction_165 ?_
    refine px_aald (t0 := 2) hC (ks gk) rfl rfl (by decide) (by first | decide | assumption | omega) s3 dX5_fraction_166 ?_
    refine px_callVi (C := RX4) (T := TX4) (N := 4) (st := []) (nn := 0) hC (c_uLong l 113 gu (by decide)) at1 rfl gX5_fraction_X4_isLong rfl (by decide +kernel) (by decide) (Nat.le_of_ble_eq_true rfl) (by decide) rfl rfl dX5_fraction_167 (fun z g1 hz => ?_)
    obtain ⟨gu1, gf1, hz⟩ := hz
    have gk1 : gK gd pd f g1 := gk.tr (fun c hc => gf1 c (fun q => hc ⟨113, by decide, Or.inl q⟩))
    rw [w3] at hz
    rcases hz with ⟨rfl, f3, pa3, n3, mi3, t3, et3, at3⟩ | ⟨rfl, f3⟩
    · refine px_if_eq hC 186 dX5_fraction_170 (by decide) (fun q9 => absurd q9 (by decide)) (fun _ => ?_)
      obtain ⟨pf2, at2⟩ := gu1.at (show 116 < 118 by decide)
      refine px_aload_n hC 0 rfl dX5_fraction_173 ?_
      refine px_get (C := RX5) (T := TX5) (N := 7) hC (kq gk1) rfl kkX5_fraction_X5 6 (by decide) flX5_fraction_32 rfl dX5_fraction_174 ?_
      refine px_bipush (v := nI 6) hC (by decide) dX5_fraction_177 ?_
      refine px_aald (t0 := 2) hC (ks gk1) rfl rfl (by decide) (by first | decide | assumption | omega) s6 dX5_fraction_179 ?_
      refine px_callVi (C := RX4) (T := TX4) (N := 4) (st := []) (nn := 0) hC (c_uLong l 116 gu1 (by decide)) at2 rfl gX5_fraction_X4_isLong rfl (by decide +kernel) (by decide) (Nat.le_of_ble_eq_true rfl) (by decide) rfl rfl dX5_fraction_180 (fun z2 g2 hz2 => ?_)
      obtain ⟨gu2, gf2, hz2⟩ := hz2
      have gk2 : gK gd pd f g2 := gk1.tr (fun c hc => gf2 c (fun q => hc ⟨116, by decide, Or.inl q⟩))
      have at3' := at3.fr (gf2 _ (gu.ng (by decide) (by decide) (by decide)))
      rw [w6] at hz2
      rcases hz2 with ⟨rfl, f6, pa6, n6, mi6, t6, et6, at6⟩ | ⟨rfl, f6⟩
      · have hfit : fit (V a) (V b) := ⟨f3.1, f3.2, by omega⟩
        have nA : gd 116 ≠ ab := fun q => (hW.ga (gA1 (gd := gd) (pd := pd) (show 116 < 118 by decide))).2.2.1 q
        have nS : so ≠ ab := hso.nk hnu rfl
        refine px_if_ne hC 188 dX5_fraction_183 (by decide) (fun _ => ?_) (fun q9 => absurd q9 (by decide))
        refine px_aload_n hC 0 rfl dX5_fraction_188 ?_
        refine px_get (C := RX5) (T := TX5) (N := 7) hC (kq gk2) rfl kkX5_fraction_X5 2 (by decide) flX5_fraction_17 rfl dX5_fraction_189 ?_
        refine px_iload_n hC 3 rfl dX5_fraction_192 ?_
        refine px_aload_n hC 0 rfl dX5_fraction_193 ?_
        refine px_get (C := RX5) (T := TX5) (N := 7) hC (kq gk2) rfl kkX5_fraction_X5 6 (by decide) flX5_fraction_32 rfl dX5_fraction_194 ?_
        refine px_iconst (v := nI 3) hC (by decide) dX5_fraction_197 ?_
        refine px_aald (t0 := 2) hC (ks gk2) rfl rfl (by decide) (by first | decide | assumption | omega) s3 dX5_fraction_198 ?_
        refine px_get (C := RX4) (T := TX4) (N := 4) hC at3' rfl kkX5_fraction_X4 3 (by decide) flX5_fraction_86 rfl dX5_fraction_199 ?_
        refine px_last hC (kn gk2) hi (by first | decide | assumption | omega) dX5_fraction_202 ?_
        refine px_aload_n hC 0 rfl dX5_fraction_203 ?_
        refine px_get (C := RX5) (T := TX5) (N := 7) hC ((kq gk2).up (hq.nk hnu rfl)) rfl kkX5_fraction_X5 3 (by decide) flX5_fraction_21 rfl dX5_fraction_204 ?_
        refine px_iload_n hC 3 rfl dX5_fraction_207 ?_
        refine px_aload_n hC 0 rfl dX5_fraction_208 ?_
        refine px_get (C := RX5) (T := TX5) (N := 7) hC ((kq gk2).up (hq.nk hnu rfl)) rfl kkX5_fraction_X5 6 (by decide) flX5_fraction_32 rfl dX5_fraction_209 ?_
        refine px_bipush (v := nI 6) hC (by decide) dX5_fraction_212 ?_
        refine px_aald (t0 := 2) hC ((ks gk2).up nS) rfl rfl (by decide) (by first | decide | assumption | omega) s6 dX5_fraction_214 ?_
        refine px_get (C := RX4) (T := TX4) (N := 4) hC (at6.up nA) rfl kkX5_fraction_X4 3 (by decide) flX5_fraction_86 rfl dX5_fraction_215 ?_
        refine px_last hC ((kd gk2).up (fun q => hau q.symm)) hi (by first | decide | assumption | omega) dX5_fraction_218 ?_
        refine px_iconst (v := nI 1) hC (by decide) dX5_fraction_219 ?_
        subst hQ
        exact px_zret hC rfl (by decide) (⟨_, rfl, rfl, W, _, _, ((hW.K gu2 gk2).oA _).oU _, wt, fun c h1 h2 h3 => by rw [va_up_ne _ _ h2, va_up_ne _ _ h1]; exact gk2 c h3, Or.inl ⟨rfl, hfit, t3, t6, et3, et6, rfl, rfl⟩⟩) dX5_fraction_220
      · refine px_if_ne hC 188 dX5_fraction_183 (by decide) (fun q9 => (q9 (by decide)).elim) (fun _ => ?_)
        exact no g2 gu2 gk2 (fun h => f6 (by have := h.2.2; omega))
    · refine px_if_eq hC 186 dX5_fraction_170 (by decide) (fun _ => ?_) (fun q9 => (q9 (by decide)).elim)
      exact no g1 gu1 gk1 (fun h => f3 ⟨h.1, h.2.1⟩)
  -- the signs
  have sign : ∀ (g : Nat → va_E) (W : Nat → Int), gU E L g gd pd W → gK gd pd f g → (∀ t, t < 110 → W t = V t) → (W 113).natAbs = (V a).natAbs / Nat.gcd (V a).natAbs (V b).natAbs → (W 116).natAbs = (V b).natAbs / Nat.gcd (V a).natAbs (V b).natAbs → px p l e (px_rm 3 72) s m [.ref mm, .ref (gd a), .ref (gd b), .int (nI i)].toArray below meth c 6 E A s.heap L (g) 0 0 Q 113 [(0, .ref mm), (1, .ref (gd a)), (2, .ref (gd b)), (3, .int (nI i)), (4, .ref (gd 111)), (5, .ref (gd 112))] [] := by
    intro g W gu gk wt w3 w6
    obtain ⟨n3, m3, x3, v3, S3, C3⟩ := gu.2 113 (by decide)
    obtain ⟨na, ma, xa, va, Sa, Ca⟩ := gu.2 a (by omega)
    obtain ⟨nb', mb, xb, vb, Sb, Cb⟩ := gu.2 b (by omega)
    rw [wt a ha] at Ca
    rw [wt b hb] at Cb
    have put : ∀ mi', mi' < 2 → (mi' = 1 ↔ fN (V a) (V b) < 0) → px p l e (px_rm 3 72) s m [.ref mm, .ref (gd a), .ref (gd b), .int (nI i)].toArray below meth c 6 E A s.heap L (g) 0 0 Q 147 [(0, .ref mm), (1, .ref (gd a)), (2, .ref (gd b)), (3, .int (nI i)), (4, .ref (gd 111)), (5, .ref (gd 112))] [.int (nI mi'), .ref (gd 113)] := by
      intro mi' hm hmi
      have C3' : gC n3 mi' x3 (fN (V a) (V b)) := ⟨C3.1, C3.2.1, C3.2.2.1, hm, by rw [fN_abs, ← w3]; exact C3.2.2.2.2.1, hmi⟩
      obtain ⟨gu1, gk1, -⟩ := gu.up1 (vv := v3) (by decide) S3 C3'
      have gk1 := gk.tr gk1
      obtain ⟨W1, e1, x1, k1⟩ := up_ex W 113 (fN (V a) (V b))
      rw [← e1] at gu1
      refine px_put (C := RX4) (T := TX4) (N := 4) (fs' := gF (pd 113) (nI n3) (nI mi') v3) hC S3.1 rfl kkX5_fraction_X4 2 (by decide) tyX4 tyX4_ok nmX4 flX5_fraction_80 rfl (by rcases two_of hm with rfl | rfl <;> rfl) (by rcases two_of hm with rfl | rfl <;> rfl) (Nat.le_of_ble_eq_true rfl) rfl dX5_fraction_147 ?_
      generalize va_up g (gd 113) (.inr (3, gF (pd 113) (nI n3) (nI mi') v3)) = g1 at gu1 gk1 ⊢
      obtain ⟨n6, m6, x6, v6, S6, C6⟩ := gu1.2 116 (by decide)
      rw [k1 116 (by decide)] at C6
      have C6' : gC n6 0 x6 (fM (V a) (V b) : Int) := ⟨C6.1, C6.2.1, C6.2.2.1, by decide, by rw [Int.natAbs_natCast]; unfold fM; rw [← w6]; exact C6.2.2.2.2.1, ⟨fun h => absurd h (by decide), fun h => absurd h (by omega)⟩⟩
      obtain ⟨gu2, gk2, -⟩ := gu1.up1 (vv := v6) (by decide) S6 C6'
      have gk2 := gk1.tr gk2
      obtain ⟨W2, e2, x2, k2⟩ := up_ex W1 116 (fM (V a) (V b) : Int)
      rw [← e2] at gu2
      refine px_aload_n hC 0 rfl dX5_fraction_150 ?_
      refine px_get (C := RX5) (T := TX5) (N := 7) hC (kq gk1) rfl kkX5_fraction_X5 6 (by decide) flX5_fraction_32 rfl dX5_fraction_151 ?_
      refine px_bipush (v := nI 6) hC (by decide) dX5_fraction_154 ?_
      refine px_aald (t0 := 2) hC (ks gk1) rfl rfl (by decide) (by first | decide | assumption | omega) s6 dX5_fraction_156 ?_
      refine px_iconst (v := nI 0) hC (by decide) dX5_fraction_157 ?_
      refine px_put (C := RX4) (T := TX4) (N := 4) (fs' := gF (pd 116) (nI n6) (nI 0) v6) hC S6.1 rfl kkX5_fraction_X4 2 (by decide) tyX4 tyX4_ok nmX4 flX5_fraction_80 rfl (by decide) (by decide) (Nat.le_of_ble_eq_true rfl) rfl dX5_fraction_158 ?_
      exact last _ W2 gu2 gk2 (fun t ht => by rw [k2 t (by omega), k1 t (by omega)]; exact wt t ht) (by rw [k2 _ (by decide)]; exact x1) x2
    refine px_aload_n hC 0 rfl dX5_fraction_113 ?_
    refine px_get (C := RX5) (T := TX5) (N := 7) hC (kq gk) rfl kkX5_fraction_X5 6 (by decide) flX5_fraction_32 rfl dX5_fraction_114 ?_
    refine px_iconst (v := nI 3) hC (by decide) dX5_fraction_117 ?_
    refine px_aald (t0 := 2) hC (ks gk) rfl rfl (by decide) (by first | decide | assumption | omega) s3 dX5_fraction_118 ?_
    refine px_aload_n hC 0 rfl dX5_fraction_119 ?_
    refine px_get (C := RX5) (T := TX5) (N := 7) hC (kq gk) rfl kkX5_fraction_X5 6 (by decide) flX5_fraction_32 rfl dX5_fraction_120 ?_
    refine px_iconst (v := nI 3) hC (by decide) dX5_fraction_123 ?_
    refine px_aald (t0 := 2) hC (ks gk) rfl rfl (by decide) (by first | decide | assumption | omega) s3 dX5_fraction_124 ?_
    refine px_callVi (C := RX4) (T := TX4) (N := 4) (st := [.ref (gd 113)]) (nn := 0) hC (c_uZero l 113 gu (by decide)) S3.1 rfl gX5_fraction_X4_isZero rfl (by decide +kernel) (by decide) (Nat.le_of_ble_eq_true rfl) (by decide) rfl rfl dX5_fraction_125 (fun z g1 hz => ?_)
    obtain ⟨rfl, hz⟩ := hz
    rcases hz with ⟨rfl, hz⟩ | ⟨rfl, hz⟩
    · refine px_if_ne hC 146 dX5_fraction_128 (by decide) (fun _ => ?_) (fun q9 => absurd q9 (by decide))
      refine px_iconst (v := nI 0) hC (by decide) dX5_fraction_146 ?_
      exact put 0 (by decide) ⟨fun h => absurd h (by decide), fun h => by rw [fN_neg, ← w3] at h; omega⟩
    · refine px_if_ne hC 146 dX5_fraction_128 (by decide) (fun q9 => (q9 (by decide)).elim) (fun _ => ?_)
      refine px_aload_n hC 1 rfl dX5_fraction_131 ?_
      refine px_get (C := RX4) (T := TX4) (N := 4) hC Sa.1 rfl kkX5_fraction_X4 2 (by decide) flX5_fraction_80 rfl dX5_fraction_132 ?_
      refine px_aload_n hC 2 rfl dX5_fraction_135 ?_
      refine px_get (C := RX4) (T := TX4) (N := 4) hC Sb.1 rfl kkX5_fraction_X4 2 (by decide) flX5_fraction_80 rfl dX5_fraction_136 ?_
      have a4 := Ca.2.2.2.1
      have a6 := Ca.2.2.2.2.2
      have b4 := Cb.2.2.2.1
      have b6 := Cb.2.2.2.2.2
      by_cases hm : ma = mb
      · refine px_icmp_eq hC 146 dX5_fraction_139 (by decide) (fun _ => ?_) (fun q9 => (q9 (by rw [hm])).elim)
        refine px_iconst (v := nI 0) hC (by decide) dX5_fraction_146 ?_
        exact put 0 (by decide) ⟨fun h => absurd h (by decide), fun h => by rw [fN_neg] at h; exact absurd ⟨fun q => b6.mp (hm ▸ a6.mpr q), fun q => a6.mp (hm ▸ b6.mpr q)⟩ h.2⟩
      · refine px_icmp_eq hC 146 dX5_fraction_139 (by decide) (fun q9 => absurd q9 (fun h => hm (nI_inj2 (by omega) (by omega) h))) (fun _ => ?_)
        refine px_iconst (v := nI 1) hC (by decide) dX5_fraction_142 ?_
        refine px_goto hC 147 dX5_fraction_143 (by decide) ?_
        exact put 1 (by decide) ⟨fun _ => by
          rw [fN_neg, ← w3]
          refine ⟨by omega, fun q => ?_⟩
          rcases two_of a4 with q1 | q1 <;> rcases two_of b4 with q2 | q2
          · omega
          · have := b6.mp q2; have := a6.mpr (q.mpr this); omega
          · have := a6.mp q1; have := b6.mpr (q.mp this); omega
          · omega, fun _ => rfl⟩
  have fin : ∀ (g : Nat → va_E) (W : Nat → Int), W 112 = 0 → gU E L g gd pd W → gK gd pd f g → (∀ t, t < 110 → W t = V t) → (W 111).natAbs < 268435456 ^ 12 → Nat.gcd (W 111).natAbs (W 112).natAbs = Nat.gcd (V a).natAbs (V b).natAbs → px p l e (px_rm 3 72) s m [.ref mm, .ref (gd a), .ref (gd b), .int (nI i)].toArray below meth c 6 E A s.heap L (g) 0 0 Q 76 [(0, .ref mm), (1, .ref (gd a)), (2, .ref (gd b)), (3, .int (nI i)), (4, .ref (gd 111)), (5, .ref (gd 112))] [] := by
    intro g W w0 gu gk wt w1 wg
    have wG : (W 111).natAbs = Nat.gcd (V a).natAbs (V b).natAbs := by rw [← wg, w0]; exact (Nat.gcd_zero_right _).symm
    have wn : W 111 ≠ 0 := by omega
    obtain ⟨pf1, at1⟩ := gu.at (show 113 < 118 by decide)
    refine px_aload_n hC 0 rfl dX5_fraction_76 ?_
    refine px_get (C := RX5) (T := TX5) (N := 7) hC (kq gk) rfl kkX5_fraction_X5 6 (by decide) flX5_fraction_32 rfl dX5_fraction_77 ?_
    refine px_iconst (v := nI 3) hC (by decide) dX5_fraction_80 ?_
    refine px_aald (t0 := 2) hC (ks gk) rfl rfl (by decide) (by first | decide | assumption | omega) s3 dX5_fraction_81 ?_
    refine px_aload_n hC 1 rfl dX5_fraction_82 ?_
    refine px_aload hC 4 rfl dX5_fraction_83 ?_
    refine px_aload_n hC 0 rfl dX5_fraction_85 ?_
    refine px_get (C := RX5) (T := TX5) (N := 7) hC (kq gk) rfl kkX5_fraction_X5 6 (by decide) flX5_fraction_32 rfl dX5_fraction_86 ?_
    refine px_iconst (v := nI 5) hC (by decide) dX5_fraction_89 ?_
    refine px_aald (t0 := 2) hC (ks gk) rfl rfl (by decide) (by first | decide | assumption | omega) s5 dX5_fraction_90 ?_
    refine px_callVv (C := RX4) (T := TX4) (N := 4) (st := []) (nn := 3) hC (c_uQuot l 113 a 111 115 gu (by decide) (by omega) (by decide) (by decide) (by omega) (by decide) (by decide) (by omega) (by decide) (bd_up w1 (by decide)) wn) at1 rfl gX5_fraction_X4_quotient rfl (by decide +kernel) (by decide) (Nat.le_of_ble_eq_true rfl) (by decide) rfl rfl dX5_fraction_91 (fun g1 h1 => ?_)
    obtain ⟨gu1, gk1⟩ := h1
    have gk1 := gk.tr gk1
    obtain ⟨W1, e1, x1, k1⟩ := up_ex W 113 (qz (W a) (W 111))
    rw [← e1] at gu1
    obtain ⟨W2, e2, x2, k2⟩ := up_ex W1 115 (((W a).natAbs % (W 111).natAbs : Nat) : Int)
    rw [← e2] at gu1
    have y1 : W2 111 = W 111 := by rw [k2 _ (by decide), k1 _ (by decide)]
    have y2 : W2 b = V b := by rw [k2 _ (by omega), k1 _ (by omega)]; exact wt b hb
    have y3 : W2 113 = qz (V a) (W 111) := by rw [k2 _ (by decide), x1, wt a ha]
    obtain ⟨pf2, at2⟩ := gu1.at (show 116 < 118 by decide)
    refine px_aload_n hC 0 rfl dX5_fraction_94 ?_
    refine px_get (C := RX5) (T := TX5) (N := 7) hC (kq gk1) rfl kkX5_fraction_X5 6 (by decide) flX5_fraction_32 rfl dX5_fraction_95 ?_
    refine px_bipush (v := nI 6) hC (by decide) dX5_fraction_98 ?_
    refine px_aald (t0 := 2) hC (ks gk1) rfl rfl (by decide) (by first | decide | assumption | omega) s6 dX5_fraction_100 ?_
    refine px_aload_n hC 2 rfl dX5_fraction_101 ?_
    refine px_aload hC 4 rfl dX5_fraction_102 ?_
    refine px_aload_n hC 0 rfl dX5_fraction_104 ?_
    refine px_get (C := RX5) (T := TX5) (N := 7) hC (kq gk1) rfl kkX5_fraction_X5 6 (by decide) flX5_fraction_32 rfl dX5_fraction_105 ?_
    refine px_iconst (v := nI 5) hC (by decide) dX5_fraction_108 ?_
    refine px_aald (t0 := 2) hC (ks gk1) rfl rfl (by decide) (by first | decide | assumption | omega) s5 dX5_fraction_109 ?_
    refine px_callVv (C := RX4) (T := TX4) (N := 4) (st := []) (nn := 3) hC (c_uQuot l 116 b 111 115 gu1 (by decide) (by omega) (by decide) (by decide) (by omega) (by decide) (by decide) (by omega) (by decide) (by rw [y1]; exact bd_up w1 (by decide)) (by rw [y1]; exact wn)) at2 rfl gX5_fraction_X4_quotient rfl (by decide +kernel) (by decide) (Nat.le_of_ble_eq_true rfl) (by decide) rfl rfl dX5_fraction_110 (fun g2 h2 => ?_)
    obtain ⟨gu2, gk2⟩ := h2
    have gk2 := gk1.tr gk2
    obtain ⟨W3, e3, x3, k3⟩ := up_ex W2 116 (qz (W2 b) (W2 111))
    rw [← e3] at gu2
    obtain ⟨W4, e4, x4, k4⟩ := up_ex W3 115 (((W2 b).natAbs % (W2 111).natAbs : Nat) : Int)
    rw [← e4] at gu2
    exact sign g2 W4 gu2 gk2 (fun t ht => by rw [k4 t (by omega), k3 t (by omega), k2 t (by omega), k1 t (by omega)]; exact wt t ht) (by rw [k4 _ (by decide), k3 _ (by decide), y3, qz_abs, wG]) (by rw [k4 _ (by decide), x3, y1, y2, qz_abs, wG])
  -- Euclid
  have loop : ∀ (mz : Nat) (g : Nat → va_E) (W : Nat → Int), (W 112).natAbs < mz → gU E L g gd pd W → gK gd pd f g → (∀ t, t < 110 → W t = V t) → (W 111).natAbs < 268435456 ^ 12 → (W 112).natAbs < 268435456 ^ 12 → Nat.gcd (W 111).natAbs (W 112).natAbs = Nat.gcd (V a).natAbs (V b).natAbs → px p l e (px_rm 3 72) s m [.ref mm, .ref (gd a), .ref (gd b), .int (nI i)].toArray below meth c 6 E A s.heap L (g) 0 0 Q 28 [(0, .ref mm), (1, .ref (gd a)), (2, .ref (gd b)), (3, .int (nI i)), (4, .ref (gd 111)), (5, .ref (gd 112))] [] := by
    intro mz
    induction mz with
    | zero => intro g W h; exact absurd h (by omega)
    | succ mz ih =>
      intro g W hlt gu gk wt w1 w2 wg
      obtain ⟨pf0, at0⟩ := gu.at (show 112 < 118 by decide)
      refine px_aload hC 5 rfl dX5_fraction_28 ?_
      refine px_callVi (C := RX4) (T := TX4) (N := 4) (st := []) (nn := 0) hC (c_uZero l 112 gu (by decide)) at0 rfl gX5_fraction_X4_isZero rfl (by decide +kernel) (by decide) (Nat.le_of_ble_eq_true rfl) (by decide) rfl rfl dX5_fraction_30 (fun z g0 hz => ?_)
      obtain ⟨rfl, hz⟩ := hz
      rcases hz with ⟨rfl, hz⟩ | ⟨rfl, hz⟩
      · refine px_if_ne hC 76 dX5_fraction_33 (by decide) (fun _ => ?_) (fun q9 => absurd q9 (by decide))
        exact fin g0 W hz gu gk wt w1 wg
      · refine px_if_ne hC 76 dX5_fraction_33 (by decide) (fun q9 => (q9 (by decide)).elim) (fun _ => ?_)
        obtain ⟨pf1, at1⟩ := gu.at (show 113 < 118 by decide)
        refine px_aload_n hC 0 rfl dX5_fraction_36 ?_
        refine px_get (C := RX5) (T := TX5) (N := 7) hC (kq gk) rfl kkX5_fraction_X5 6 (by decide) flX5_fraction_32 rfl dX5_fraction_37 ?_
        refine px_iconst (v := nI 3) hC (by decide) dX5_fraction_40 ?_
        refine px_aald (t0 := 2) hC (ks gk) rfl rfl (by decide) (by first | decide | assumption | omega) s3 dX5_fraction_41 ?_
        refine px_aload hC 4 rfl dX5_fraction_42 ?_
        refine px_aload hC 5 rfl dX5_fraction_44 ?_
        refine px_aload_n hC 0 rfl dX5_fraction_46 ?_
        refine px_get (C := RX5) (T := TX5) (N := 7) hC (kq gk) rfl kkX5_fraction_X5 6 (by decide) flX5_fraction_32 rfl dX5_fraction_47 ?_
        refine px_iconst (v := nI 4) hC (by decide) dX5_fraction_50 ?_
        refine px_aald (t0 := 2) hC (ks gk) rfl rfl (by decide) (by first | decide | assumption | omega) s4 dX5_fraction_51 ?_
        refine px_callVv (C := RX4) (T := TX4) (N := 4) (st := []) (nn := 3) hC (c_uQuot l 113 111 112 114 gu (by decide) (by decide) (by decide) (by decide) (by decide) (by decide) (by decide) (by decide) (by decide) (bd_up w2 (by decide)) hz) at1 rfl gX5_fraction_X4_quotient rfl (by decide +kernel) (by decide) (Nat.le_of_ble_eq_true rfl) (by decide) rfl rfl dX5_fraction_52 (fun g1 h1 => ?_)
        obtain ⟨gu1, gk1⟩ := h1
        have gk1 := gk.tr gk1
        obtain ⟨W1, e1, x1, k1⟩ := up_ex W 113 (qz (W 111) (W 112))
        rw [← e1] at gu1
        obtain ⟨W2, e2, x2, k2⟩ := up_ex W1 114 (((W 111).natAbs % (W 112).natAbs : Nat) : Int)
        rw [← e2] at gu1
        obtain ⟨pf2, at2⟩ := gu1.at (show 111 < 118 by decide)
        have y1 : W2 112 = W 112 := by rw [k2 _ (by decide), k1 _ (by decide)]
        refine px_aload hC 4 rfl dX5_fraction_55 ?_
        refine px_aload hC 5 rfl dX5_fraction_57 ?_
        refine px_callVv (C := RX4) (T := TX4) (N := 4) (st := []) (nn := 1) hC (c_uSet2 l 111 112 gu1 (by decide) (by decide) (by decide)) at2 rfl gX5_fraction_X4_set_ rfl (by decide +kernel) (by decide) (Nat.le_of_ble_eq_true rfl) (by decide) rfl rfl dX5_fraction_59 (fun g2 h2 => ?_)
        obtain ⟨gu2, gk2⟩ := h2
        have gk2 := gk1.tr gk2
        rw [y1] at gu2
        obtain ⟨W3, e3, x3, k3⟩ := up_ex W2 111 (W 112)
        rw [← e3] at gu2
        obtain ⟨pf3, at3⟩ := gu2.at (show 112 < 118 by decide)
        have y2 : W3 114 = (((W 111).natAbs % (W 112).natAbs : Nat) : Int) := by rw [k3 _ (by decide)]; exact x2
        refine px_aload hC 5 rfl dX5_fraction_62 ?_
        refine px_aload_n hC 0 rfl dX5_fraction_64 ?_
        refine px_get (C := RX5) (T := TX5) (N := 7) hC (kq gk2) rfl kkX5_fraction_X5 6 (by decide) flX5_fraction_32 rfl dX5_fraction_65 ?_
        refine px_iconst (v := nI 4) hC (by decide) dX5_fraction_68 ?_
        refine px_aald (t0 := 2) hC (ks gk2) rfl rfl (by decide) (by first | decide | assumption | omega) s4 dX5_fraction_69 ?_
        refine px_callVv (C := RX4) (T := TX4) (N := 4) (st := []) (nn := 1) hC (c_uSet2 l 112 114 gu2 (by decide) (by decide) (by decide)) at3 rfl gX5_fraction_X4_set_ rfl (by decide +kernel) (by decide) (Nat.le_of_ble_eq_true rfl) (by decide) rfl rfl dX5_fraction_70 (fun g3 h3 => ?_)
        obtain ⟨gu3, gk3⟩ := h3
        have gk3 := gk2.tr gk3
        rw [y2] at gu3
        obtain ⟨W4, e4, x4, k4⟩ := up_ex W3 112 (((W 111).natAbs % (W 112).natAbs : Nat) : Int)
        rw [← e4] at gu3
        have hml := Nat.mod_lt (W 111).natAbs (show 0 < (W 112).natAbs by omega)
        have y3 : W4 111 = W 112 := by rw [k4 _ (by decide)]; exact x3
        have y4 : (W4 112).natAbs = (W 111).natAbs % (W 112).natAbs := by rw [x4, Int.natAbs_natCast]
        refine px_goto hC 28 dX5_fraction_73 (by decide) ?_
        exact ih g3 W4 (by omega) gu3 gk3 (fun t ht => by rw [k4 t (by omega), k3 t (by omega), k2 t (by omega), k1 t (by omega)]; exact wt t ht) (by rw [y3]; exact w2) (by rw [y4]; exact Nat.lt_trans hml w2) (by rw [y3, y4, gcd_next]; exact wg)
  have gk0 : gK gd pd f f := gK.rf
  obtain ⟨pf1, at1⟩ := hU.at (show 111 < 118 by decide)
  refine px_aload_n hC 0 rfl dX5_fraction_0 ?_
  refine px_get (C := RX5) (T := TX5) (N := 7) hC (kq gk0) rfl kkX5_fraction_X5 6 (by decide) flX5_fraction_32 rfl dX5_fraction_1 ?_
  refine px_iconst (v := nI 1) hC (by decide) dX5_fraction_4 ?_
  refine px_aald (t0 := 2) hC (ks gk0) rfl rfl (by decide) (by first | decide | assumption | omega) s1 dX5_fraction_5 ?_
  refine px_astore (lv' := [(0, .ref mm), (1, .ref (gd a)), (2, .ref (gd b)), (3, .int (nI i)), (4, .ref (gd 111))]) hC [1, 2, 3, 4, 0] dX5_fraction_6 (by decide) rfl ?_
  refine px_aload_n hC 0 rfl dX5_fraction_8 ?_
  refine px_get (C := RX5) (T := TX5) (N := 7) hC (kq gk0) rfl kkX5_fraction_X5 6 (by decide) flX5_fraction_32 rfl dX5_fraction_9 ?_
  refine px_iconst (v := nI 2) hC (by decide) dX5_fraction_12 ?_
  refine px_aald (t0 := 2) hC (ks gk0) rfl rfl (by decide) (by first | decide | assumption | omega) s2 dX5_fraction_13 ?_
  refine px_astore (lv' := [(0, .ref mm), (1, .ref (gd a)), (2, .ref (gd b)), (3, .int (nI i)), (4, .ref (gd 111)), (5, .ref (gd 112))]) hC [1, 2, 3, 4, 5, 0] dX5_fraction_14 (by decide) rfl ?_
  refine px_aload hC 4 rfl dX5_fraction_16 ?_
  refine px_aload_n hC 1 rfl dX5_fraction_18 ?_
  refine px_callVv (C := RX4) (T := TX4) (N := 4) (st := []) (nn := 1) hC (c_uSet2 l 111 a hU (by decide) (by omega) (by omega)) at1 rfl gX5_fraction_X4_set_ rfl (by decide +kernel) (by decide) (Nat.le_of_ble_eq_true rfl) (by decide) rfl rfl dX5_fraction_19 (fun g1 h1 => ?_)
  obtain ⟨gu1, gk1⟩ := h1
  obtain ⟨W1, e1, x1, k1⟩ := up_ex V 111 (V a)
  rw [← e1] at gu1
  obtain ⟨pf2, at2⟩ := gu1.at (show 112 < 118 by decide)
  have y1 : W1 b = V b := k1 b (by omega)
  refine px_aload hC 5 rfl dX5_fraction_22 ?_
  refine px_aload_n hC 2 rfl dX5_fraction_24 ?_
  refine px_callVv (C := RX4) (T := TX4) (N := 4) (st := []) (nn := 1) hC (c_uSet2 l 112 b gu1 (by decide) (by omega) (by omega)) at2 rfl gX5_fraction_X4_set_ rfl (by decide +kernel) (by decide) (Nat.le_of_ble_eq_true rfl) (by decide) rfl rfl dX5_fraction_25 (fun g2 h2 => ?_)
  obtain ⟨gu2, gk2⟩ := h2
  have gk2 := gk1.tr gk2
  rw [y1] at gu2
  obtain ⟨W2, e2, x2, k2⟩ := up_ex W1 112 (V b)
  rw [← e2] at gu2
  have y2 : W2 111 = V a := by rw [k2 _ (by decide)]; exact x1
  exact loop ((V b).natAbs + 1) g2 W2 (by rw [x2]; omega) gu2 gk2 (fun t ht => by rw [k2 t (by omega), k1 t (by omega)]) (by rw [y2]; exact ka) (by rw [x2]; exact kb) (by rw [y2, x2])
end MM
