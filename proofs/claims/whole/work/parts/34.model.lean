/-! ===== the reference's elimination ===== -/
theorem sw_id {α : Type} (M : Nat → α) (k p a : Nat) : sw M k p a = M (sw id k p a) := by
  unfold sw
  by_cases q : a = k
  · rw [if_pos q, if_pos q]; rfl
  · rw [if_neg q, if_neg q]
    by_cases q2 : a = p
    · rw [if_pos q2, if_pos q2]; rfl
    · rw [if_neg q2, if_neg q2]; rfl
theorem sw_lt {k p a n : Nat} (hk : k < n) (hp : p < n) (ha : a < n) : sw id k p a < n := by
  unfold sw
  by_cases q : a = k
  · rw [if_pos q]; exact hp
  · rw [if_neg q]
    by_cases q2 : a = p
    · rw [if_pos q2]; exact hk
    · rw [if_neg q2]; exact ha
theorem sw_sw (x y t : Nat) : sw id x y (sw id x y t) = t := by
  by_cases a : t = x
  · have e : sw id x y t = y := by rw [swA, if_pos a]; rfl
    rw [e, swA]
    by_cases b : y = x
    · rw [if_pos b, a, b]; rfl
    · rw [if_neg b, if_pos rfl, a]; rfl
  · by_cases b : t = y
    · have e : sw id x y t = x := by rw [swA, if_neg a, if_pos b]; rfl
      rw [e, swA, if_pos rfl, b]; rfl
    · have e : sw id x y t = t := by rw [swA, if_neg a, if_neg b]; rfl
      rw [e, e]
theorem sw_inj {pi : Nat → Nat} {x y N : Nat} (hx : x < N) (hy : y < N) (h : ∀ t u, t < N → u < N → pi t = pi u → t = u) : ∀ t u, t < N → u < N → sw pi x y t = sw pi x y u → t = u := by
  intro t u ht hu e
  rw [sw_id pi, sw_id pi] at e
  have h1 := h _ _ (sw_lt hx hy ht) (sw_lt hx hy hu) e
  have h2 := congrArg (sw id x y) h1
  rw [sw_sw, sw_sw] at h2
  exact h2
theorem bd_31 {m : Nat} (hm : m ≤ 10) : fc m * (2 ^ 31) ^ m < 268435456 ^ 12 := by
  have h1 := fc_10 hm
  have h2 : (2 ^ 31) ^ m ≤ 2 ^ 310 := by rw [← Nat.pow_mul]; exact Nat.pow_le_pow_right (by decide) (by omega)
  have h3 : fc m * (2 ^ 31) ^ m ≤ 3628800 * 2 ^ 310 := Nat.mul_le_mul h1 h2
  exact Nat.lt_of_le_of_lt h3 (by decide)
theorem bI_bd {A : Nat → Nat → Int} {n k : Nat} {d : Int} {M : Nat → Nat → Int} (h : bI A n k d M) (hA : ∀ i c, (A i c).natAbs ≤ 2 ^ 31) (hk : k ≤ n) (hn : n ≤ 10) : (∀ i j, i < n → j ≤ n → (M i j).natAbs < 268435456 ^ 12) ∧ d ≠ 0 ∧ d.natAbs < 268435456 ^ 12 := ⟨fun i j hi hj => Nat.lt_of_le_of_lt (bI_le h hA (Nat.pow_pos (by decide)) hk i j hi hj) (bd_31 (by omega)), (bI_d h hA).1, Nat.lt_of_le_of_lt (bI_d h hA).2 (bd_31 (by omega))⟩
theorem el_k (M : Nat → Nat → Int) (k : Nat) (d : Int) (j : Nat) : el M k d k j = M k j := by unfold el; rw [if_pos rfl]
def mrS (E : px_E) (L : List Nat) (f g : Nat → va_E) (mm nb ab ud mx so : Nat) (gd pd : Nat → Nat) (sz td : Int32) (r : Nat → Int32) (nu de : Nat → Int64) (n k : Nat) (d : Int) (M : Nat → Nat → Int) : Prop := ∃ (A' : Nat → Nat → Int) (pi : Nat → Nat) (V : Nat → Int), bI A' n k d M ∧ (∀ i c, (A' i c).natAbs ≤ 2 ^ 31) ∧ mW E L g mm nb ab ud mx so gd pd sz td r nu de pi V ∧ (∀ b, b ≠ mx → ¬ gA gd pd b → g b = f b) ∧ V 110 = d ∧ ∀ a j, a < n → j ≤ n → V (pi ((n + 1) * a + j)) = M a j
def mrP (E : px_E) (L : List Nat) (f : Nat → va_E) (mm nb ab ud mx so : Nat) (gd pd : Nat → Nat) (sz td : Int32) (r : Nat → Int32) (nu de : Nat → Int64) (n : Nat) (A : Nat → Nat → Int) (z : Int32) (g : Nat → va_E) : Prop := ∃ pi V, mW E L g mm nb ab ud mx so gd pd sz td r nu de pi V ∧ (∀ b, b ≠ mx → ¬ gA gd pd b → g b = f b) ∧ ((brun n n 0 1 A = none ∧ z = nI 0) ∨ ∃ d M, brun n n 0 1 A = some (d, M) ∧ z = nI 1 ∧ d ≠ 0 ∧ d.natAbs < 268435456 ^ 12 ∧ ∀ a, a < n → V (pi ((n + 1) * a + a)) = d ∧ V (pi ((n + 1) * a + n)) = M a n ∧ (M a n).natAbs < 268435456 ^ 12)
section MM
variable {E : px_E} {L : List Nat} {f : Nat → va_E} {mm nb ab ud mx so : Nat} {gd pd : Nat → Nat} {sz td : Int32} {r : Nat → Int32} {nu de : Nat → Int64} {pi : Nat → Nat} {V : Nat → Int}
theorem flX5_isReduced_28 : Cond.fieldLink RX5 28 "RowReductionModel" "matrix" "[LRowReductionModel$Great;" ∈ wsX5_isReduced := by decide +kernel
theorem kkX5_isReduced_X5 : ∀ w ∈ wsX50, w ∈ wsX5_isReduced := fun _ h => List.mem_cons_of_mem _ (List.mem_append_left _ (List.mem_append_right _ h))
theorem flX5_isReduced_32 : Cond.fieldLink RX5 32 "RowReductionModel" "some" "[LRowReductionModel$Great;" ∈ wsX5_isReduced := by decide +kernel
theorem c_mRed (l : Launch) (n : Nat) (A0 : Nat → Nat → Int) (hW : mW E L f mm nb ab ud mx so gd pd sz td r nu de pi V) (h1n : 1 ≤ n) (hn : n ≤ 10) (hM : ∀ a j, a < n → j ≤ n → V (pi ((n + 1) * a + j)) = A0 a j) (hA : ∀ a j, (A0 a j).natAbs ≤ 2 ^ 31) : px_M l yX5_isReduced wsX5_isReduced (px_rm 4 98) E L f [.ref mm, .int (nI n)] (px_i L (mrP E L f mm nb ab ud mx so gd pd sz td r nu de n A0)) := by
  refine px_M.of (cc := cX5_isReduced) (maxL := 8) (ret := (some .boolean)) (lv := [(0, .ref mm), (1, .int (nI n))]) (by decide) rfl (Nat.le_of_ble_eq_true rfl) rfl ?_
  intro p e s m below meth c A hC hnm
  obtain ⟨Q, hQ⟩ : ∃ Q, Q = MQ below (px_Q E (px_i L (mrP E L f mm nb ab ud mx so gd pd sz td r nu de n A0)) A) [.ref mm, .int (nI n)].toArray s (px_rm 4 98).cells (px_rm 4 98).slots A := ⟨_, rfl⟩
  rw [← hQ]
  have outer : ∀ (u k : Nat) (g : Nat → va_E) (d : Int) (M : Nat → Nat → Int), k + u = n → mrS E L f g mm nb ab ud mx so gd pd sz td r nu de n k d M → brun n n 0 1 A0 = brun n u k d M → px p l e (px_rm 4 98) s m [.ref mm, .int (nI n)].toArray below meth c 8 E A s.heap L (g) 0 0 Q 19 [(0, .ref mm), (1, .int (nI n)), (2, .int (nI (n + 1))), (3, .ref (gd 110)), (4, .int (nI k))] [] := by
    intro u
    induction u with
    | zero =>
      intro k g d M hk hS hb
      have ek : k = n := by omega
      subst ek
      obtain ⟨A', qi, W, hB, hA', hWg, hfr, w0, wM⟩ := hS
      obtain ⟨bM, d0, db⟩ := bI_bd hB hA' (Nat.le_refl k) hn
      refine px_iload hC 4 rfl dX5_isReduced_19 ?_
      refine px_iload_n hC 1 rfl dX5_isReduced_21 ?_
      refine px_icmp_ge hC 195 dX5_isReduced_22 (by decide) (fun _ => ?_) (fun q9 => (q9 (nI_le (Nat.le_refl k) (by omega))).elim)
      refine px_iconst (v := nI 1) hC (by decide) dX5_isReduced_195 ?_
      subst hQ
      exact px_zret hC rfl (by decide) (⟨_, rfl, rfl, qi, W, hWg, hfr, Or.inr ⟨d, M, hb, rfl, d0, db, fun a ha => ⟨by rw [wM a a ha (by omega), hB.2.2.2.2 a a ha ha, if_pos rfl], wM a k ha (Nat.le_refl k), bM a k ha (Nat.le_refl k)⟩⟩⟩) dX5_isReduced_196
    | succ u ih =>
      intro k g d M hk hS hb
      obtain ⟨A', qi, W, hB, hA', hWg, hfr, w0, wM⟩ := hS
      have hkn : k < n := by omega
      obtain ⟨bM, d0, db⟩ := bI_bd hB hA' (by omega) hn
      -- a row p with a number in column k
      have found : ∀ pq, k ≤ pq → pq < n → M pq k ≠ 0 → fnd M k k (n - k) = some pq → px p l e (px_rm 4 98) s m [.ref mm, .int (nI n)].toArray below meth c 8 E A s.heap L (g) 0 0 Q 67 [(0, .ref mm), (1, .int (nI n)), (2, .int (nI (n + 1))), (3, .ref (gd 110)), (4, .int (nI k)), (5, .int (nI pq))] [] := by
        intro pq hkp hpn hpk hfn
        have hb2 : brun n n 0 1 A0 = brun n u (k + 1) (M pq k) (el (sw M k pq) k d) := by
          rw [hb]
          show (match fnd M k k (n - k) with | none => none | some p => brun n u (k + 1) (M p k) (el (sw M k p) k d)) = _
          rw [hfn]
        have hB2 := bI_sw hB hkp hpn
        have hA2 : ∀ i c, (sw A' k pq i c).natAbs ≤ 2 ^ 31 := fun i c => by rw [sw_id A']; exact hA' _ _
        obtain ⟨bM2, -, -⟩ := bI_bd hB2 hA2 (by omega) hn
        have hkk : sw M k pq k k = M pq k := by rw [swA]; rw [if_pos rfl]
        obtain ⟨hB3, hel⟩ := bI_el hB2 hkn (by rw [hkk]; exact hpk)
        obtain ⟨bM3, -, -⟩ := bI_bd hB3 hA2 (by omega) hn
        generalize hM2 : sw M k pq = M2 at *
        -- the rows below and above
        have elimL : ∀ (v i : Nat) (h : Nat → va_E) (qi' : Nat → Nat) (W' : Nat → Int), i + v = n → mW E L h mm nb ab ud mx so gd pd sz td r nu de qi' W' → (∀ b, b ≠ mx → ¬ gA gd pd b → h b = f b) → W' 110 = d → (∀ a c, a < n → c ≤ n → W' (qi' ((n + 1) * a + c)) = if a < i then el M2 k d a c else M2 a c) → px p l e (px_rm 4 98) s m [.ref mm, .int (nI n)].toArray below meth c 8 E A s.heap L (h) 0 0 Q 144 [(0, .ref mm), (1, .int (nI n)), (2, .int (nI (n + 1))), (3, .ref (gd 110)), (4, .int (nI k)), (5, .int (nI pq)), (6, .int (nI i))] [] := by
          intro v
          induction v with
          | zero =>
            intro i h qi' W' hi hWh hfh v0 vM
            have ei : i = n := by omega
            subst ei
            obtain ⟨hq, -, -, -, ⟨mr, hmx, hmr⟩, ⟨sr, hso, hsr⟩, hU, -, hpi, hpj⟩ := id hWh
            have lk := ix_lt hn hkn (show k ≤ i by omega)
            have pk := hpi _ lk
            have vk : W' (qi' ((i + 1) * k + k)) = M pq k := by rw [vM k k hkn (by omega), if_pos hkn, el_k]; exact hkk
            refine px_iload hC 6 rfl dX5_isReduced_144 ?_
            refine px_iload_n hC 1 rfl dX5_isReduced_146 ?_
            refine px_icmp_ge hC 173 dX5_isReduced_147 (by decide) (fun _ => ?_) (fun q9 => (q9 (nI_le (Nat.le_refl i) (by omega))).elim)
            refine px_aload_n hC 3 rfl dX5_isReduced_173 ?_
            refine px_aload_n hC 0 rfl dX5_isReduced_174 ?_
            refine px_get (C := RX5) (T := TX5) (N := 7) hC hq rfl kkX5_isReduced_X5 5 (by decide) flX5_isReduced_28 rfl dX5_isReduced_175 ?_
            refine px_iload_n hC 2 rfl dX5_isReduced_178 ?_
            refine px_iload hC 4 rfl dX5_isReduced_179 ?_
            refine px_imul hC dX5_isReduced_181 ?_
            refine px_iload hC 4 rfl dX5_isReduced_182 ?_
            refine px_iadd hC dX5_isReduced_184 ?_
            refine px_ei (y := nI ((i + 1) * k + k)) (by rw [pk_mul, nI_add]) ?_
            refine px_aald (t0 := 2) hC hmx rfl rfl lk (by first | decide | assumption | omega) (hmr _ lk) dX5_isReduced_185 ?_
            obtain ⟨pf0, at0⟩ := hU.at (show 110 < 118 by decide)
            refine px_callVv (C := RX4) (T := TX4) (N := 4) (st := []) (nn := 1) hC (c_uSet2 l 110 (qi' ((i + 1) * k + k)) hU (by decide) (by omega) (by omega)) at0 rfl gX5_isReduced_X4_set_ rfl (by decide +kernel) (by decide) (Nat.le_of_ble_eq_true rfl) (by decide) rfl rfl dX5_isReduced_186 (fun h1 q1 => ?_)
            obtain ⟨gu0, gk0⟩ := q1
            rw [vk] at gu0
            obtain ⟨W1, e1, x1, k1⟩ := up_ex W' 110 (M pq k)
            rw [← e1] at gu0
            refine px_iinc (v := nI (k + 1)) (lv' := [(0, .ref mm), (1, .int (nI i)), (2, .int (nI (i + 1))), (3, .ref (gd 110)), (4, .int (nI (k + 1))), (5, .int (nI pq)), (6, .int (nI i))]) hC 4 [1, 2, 3, 4, 0, 5, 6] dX5_isReduced_189 rfl (nI_1 k) (by decide) rfl ?_
            refine px_goto hC 19 dX5_isReduced_192 (by decide) ?_
            refine px_lv (lv2 := [(0, .ref mm), (1, .int (nI i)), (2, .int (nI (i + 1))), (3, .ref (gd 110)), (4, .int (nI (k + 1)))]) [0, 1, 2, 3, 4] rfl ?_
            refine ih (k + 1) h1 (M pq k) (el M2 k d) (by omega) ⟨sw A' k pq, qi', W1, by rw [← hkk]; exact hB3, hA2, hWh.K gu0 gk0, fun b h2 h3 => by rw [gk0 b h3]; exact hfh b h2 h3, x1, fun a j ha hj => ?_⟩ hb2
            have := hpi _ (ix_lt hn ha hj)
            rw [k1 _ (by omega), vM a j ha hj, if_pos ha]
          | succ v ihv =>
            intro i h qi' W' hi hWh hfh v0 vM
            refine px_iload hC 6 rfl dX5_isReduced_144 ?_
            refine px_iload_n hC 1 rfl dX5_isReduced_146 ?_
            refine px_icmp_ge hC 173 dX5_isReduced_147 (by decide) (fun q9 => absurd q9 (nI_ge (by omega) (by omega))) (fun _ => ?_)
            refine px_iload hC 6 rfl dX5_isReduced_150 ?_
            refine px_iload hC 4 rfl dX5_isReduced_152 ?_
            by_cases hik : i = k
            · subst hik
              refine px_icmp_eq hC 167 dX5_isReduced_154 (by decide) (fun _ => ?_) (fun q9 => (q9 (rfl)).elim)
              refine px_iinc (v := nI (i + 1)) (lv' := [(0, .ref mm), (1, .int (nI n)), (2, .int (nI (n + 1))), (3, .ref (gd 110)), (4, .int (nI i)), (5, .int (nI pq)), (6, .int (nI (i + 1)))]) hC 6 [1, 2, 3, 4, 5, 6, 0] dX5_isReduced_167 rfl (nI_1 i) (by decide) rfl ?_
              refine px_goto hC 144 dX5_isReduced_170 (by decide) ?_
              refine ihv (i + 1) h qi' W' (by omega) hWh hfh v0 (fun a cc ha hc => ?_)
              rw [vM a cc ha hc]
              by_cases q : a < i
              · rw [if_pos q, if_pos (by omega)]
              · rw [if_neg q]
                by_cases q2 : a < i + 1
                · rw [if_pos q2, show a = i by omega, el_k]
                · rw [if_neg q2]
            · refine px_icmp_eq hC 167 dX5_isReduced_154 (by decide) (fun q9 => absurd q9 (fun q => hik (nI_inj2 (by omega) (by omega) q))) (fun _ => ?_)
              refine px_aload_n hC 0 rfl dX5_isReduced_157 ?_
              refine px_iload hC 6 rfl dX5_isReduced_158 ?_
              refine px_iload hC 4 rfl dX5_isReduced_160 ?_
              refine px_iload_n hC 2 rfl dX5_isReduced_162 ?_
              refine px_aload_n hC 3 rfl dX5_isReduced_163 ?_
              refine px_callVv (C := RX5) (T := TX5) (N := 7) (st := []) (nn := 4) hC (c_mElim l i k n d (fun a c => if a < i then el M2 k d a c else M2 a c) hWh hn (by omega) hkn hik vM (fun a j ha hj => by show (if a < i then el M2 k d a j else M2 a j).natAbs < _; split; exact bM3 a j ha hj; exact bM2 a j ha hj) v0 d0 db) hWh.1 rfl gX5_isReduced_X5_eliminate rfl (by decide +kernel) (by decide) (Nat.le_of_ble_eq_true rfl) (by decide) rfl rfl dX5_isReduced_164 (fun h1 q1 => ?_)
              obtain ⟨W1, gu1, gk1, x1, xM⟩ := q1
              refine px_iinc (v := nI (i + 1)) (lv' := [(0, .ref mm), (1, .int (nI n)), (2, .int (nI (n + 1))), (3, .ref (gd 110)), (4, .int (nI k)), (5, .int (nI pq)), (6, .int (nI (i + 1)))]) hC 6 [1, 2, 3, 4, 5, 6, 0] dX5_isReduced_167 rfl (nI_1 i) (by decide) rfl ?_
              refine px_goto hC 144 dX5_isReduced_170 (by decide) ?_
              refine ihv (i + 1) h1 qi' W1 (by omega) (hWh.K gu1 gk1) (fun b h2 h3 => by rw [gk1 b h3]; exact hfh b h2 h3) x1 (fun a cc ha hc => ?_)
              rw [xM a cc ha hc]
              by_cases q : a = i
              · subst q
                have e3 : (if a < a + 1 then el M2 k d a cc else M2 a cc) = el M2 k d a cc := if_pos (by omega)
                have e1 : (if k < a then el M2 k d k k else M2 k k) = M2 k k := by rw [el_k]; split <;> rfl
                have e2 : (if k < a then el M2 k d k cc else M2 k cc) = M2 k cc := by rw [el_k]; split <;> rfl
                rw [if_pos rfl, e3, e1, e2, if_neg (Nat.lt_irrefl a), if_neg (Nat.lt_irrefl a), hel a cc ha hik hc, qz_ex d0]
              · rw [if_neg q]
                by_cases q2 : a < i
                · rw [if_pos q2, if_pos (by omega)]
                · rw [if_neg q2, if_neg (by omega)]
        have toElim : ∀ (h : Nat → va_E) (qi' : Nat → Nat) (x6 : Nat), mW E L h mm nb ab ud mx so gd pd sz td r nu de qi' W → (∀ b, b ≠ mx → ¬ gA gd pd b → h b = f b) → (∀ a c, a < n → c ≤ n → W (qi' ((n + 1) * a + c)) = M2 a c) → px p l e (px_rm 4 98) s m [.ref mm, .int (nI n)].toArray below meth c 8 E A s.heap L (h) 0 0 Q 141 [(0, .ref mm), (1, .int (nI n)), (2, .int (nI (n + 1))), (3, .ref (gd 110)), (4, .int (nI k)), (5, .int (nI pq)), (6, .int (nI x6))] [] := by
          intro h qi' x6 hWh hfh vM
          refine px_iconst (v := nI 0) hC (by decide) dX5_isReduced_141 ?_
          refine px_istore (lv' := [(0, .ref mm), (1, .int (nI n)), (2, .int (nI (n + 1))), (3, .ref (gd 110)), (4, .int (nI k)), (5, .int (nI pq)), (6, .int (nI 0))]) hC [1, 2, 3, 4, 5, 6, 0] dX5_isReduced_142 (by decide) rfl ?_
          exact elimL n 0 h qi' W (by omega) hWh hfh w0 (fun a cc ha hc => by rw [if_neg (by omega)]; exact vM a cc ha hc)
        by_cases hpe : pq = k
        · have hMM : M2 = M := by
            rw [← hM2, hpe]
            funext a
            unfold sw
            by_cases q : a = k
            · rw [if_pos q, q]
            · rw [if_neg q, if_neg q]
          refine px_iconst (v := nI 0) hC (by decide) dX5_isReduced_67 ?_
          refine px_istore (lv' := [(0, .ref mm), (1, .int (nI n)), (2, .int (nI (n + 1))), (3, .ref (gd 110)), (4, .int (nI k)), (5, .int (nI pq)), (6, .int (nI 0))]) hC [1, 2, 3, 4, 5, 6, 0] dX5_isReduced_68 (by decide) rfl ?_
          refine px_iload hC 6 rfl dX5_isReduced_70 ?_
          refine px_iload_n hC 2 rfl dX5_isReduced_72 ?_
          refine px_icmp_ge hC 141 dX5_isReduced_73 (by decide) (fun q9 => absurd q9 (nI_ge (a := 0) (by omega) (by omega))) (fun _ => ?_)
          refine px_iload hC 5 rfl dX5_isReduced_76 ?_
          refine px_iload hC 4 rfl dX5_isReduced_78 ?_
          refine px_icmp_eq hC 141 dX5_isReduced_80 (by decide) (fun _ => ?_) (fun q9 => (q9 (by rw [hpe])).elim)
          exact toElim g qi 0 hWg hfr (fun a cc ha hc => by rw [hMM]; exact wM a cc ha hc)
        · have swapL : ∀ (v j : Nat) (h : Nat → va_E) (qi' : Nat → Nat), j + v = n + 1 → mW E L h mm nb ab ud mx so gd pd sz td r nu de qi' W → (∀ b, b ≠ mx → ¬ gA gd pd b → h b = f b) → (∀ a c, a < n → c ≤ n → qi' ((n + 1) * a + c) = qi ((n + 1) * (if c < j then sw id k pq a else a) + c)) → px p l e (px_rm 4 98) s m [.ref mm, .int (nI n)].toArray below meth c 8 E A s.heap L (h) 0 0 Q 70 [(0, .ref mm), (1, .int (nI n)), (2, .int (nI (n + 1))), (3, .ref (gd 110)), (4, .int (nI k)), (5, .int (nI pq)), (6, .int (nI j))] [] := by
            intro v
            induction v with
            | zero =>
              intro j h qi' hj hWh hfh hqi
              have ej : j = n + 1 := by omega
              subst ej
              refine px_iload hC 6 rfl dX5_isReduced_70 ?_
              refine px_iload_n hC 2 rfl dX5_isReduced_72 ?_
              refine px_icmp_ge hC 141 dX5_isReduced_73 (by decide) (fun _ => ?_) (fun q9 => (q9 (nI_le (Nat.le_refl _) (by omega))).elim)
              exact toElim h qi' (n + 1) hWh hfh (fun a cc ha hc => by rw [hqi a cc ha hc, if_pos (by omega), wM _ cc (sw_lt hkn hpn ha) hc, ← hM2, sw_id M])
            | succ v ihv =>
              intro j h qi' hj hWh hfh hqi
              have hjn : j ≤ n := by omega
              obtain ⟨hq, -, -, -, ⟨mr, hmx, hmr⟩, ⟨sr, hso, hsr⟩, hU, -, hpi, hpj⟩ := id hWh
              have lx := ix_lt hn hpn hjn
              have ly := ix_lt hn hkn hjn
              have hxy : (n + 1) * k + j ≠ (n + 1) * pq + j := fun q => hpe (ix_inj hjn hjn q).1.symm
              have hqx : mm ≠ mx := hq.nk hmx rfl
              obtain ⟨pfy, aty⟩ := hU.at (show qi' ((n + 1) * k + j) < 118 from Nat.lt_trans (hpi _ ly) (by decide))
              obtain ⟨pfx, atx⟩ := hU.at (show qi' ((n + 1) * pq + j) < 118 from Nat.lt_trans (hpi _ lx) (by decide))
              refine px_iload hC 6 rfl dX5_isReduced_70 ?_
              refine px_iload_n hC 2 rfl dX5_isReduced_72 ?_
              refine px_icmp_ge hC 141 dX5_isReduced_73 (by decide) (fun q9 => absurd q9 (nI_ge (by omega) (by omega))) (fun _ => ?_)
              refine px_iload hC 5 rfl dX5_isReduced_76 ?_
              refine px_iload hC 4 rfl dX5_isReduced_78 ?_
              refine px_icmp_eq hC 141 dX5_isReduced_80 (by decide) (fun q9 => absurd q9 (fun q => hpe (nI_inj2 (by omega) (by omega) q))) (fun _ => ?_)
              refine px_aload_n hC 0 rfl dX5_isReduced_83 ?_
              refine px_get (C := RX5) (T := TX5) (N := 7) hC hq rfl kkX5_isReduced_X5 5 (by decide) flX5_isReduced_28 rfl dX5_isReduced_84 ?_
              refine px_iload_n hC 2 rfl dX5_isReduced_87 ?_
              refine px_iload hC 5 rfl dX5_isReduced_88 ?_
              refine px_imul hC dX5_isReduced_90 ?_
              refine px_iload hC 6 rfl dX5_isReduced_91 ?_
              refine px_iadd hC dX5_isReduced_93 ?_
              refine px_ei (y := nI ((n + 1) * pq + j)) (by rw [pk_mul, nI_add]) ?_
              refine px_aald (t0 := 2) hC hmx rfl rfl lx (by first | decide | assumption | omega) (hmr _ lx) dX5_isReduced_94 ?_
              refine px_astore (lv' := [(0, .ref mm), (1, .int (nI n)), (2, .int (nI (n + 1))), (3, .ref (gd 110)), (4, .int (nI k)), (5, .int (nI pq)), (6, .int (nI j)), (7, .ref (gd (qi' ((n + 1) * pq + j))))]) hC [1, 2, 3, 4, 5, 6, 7, 0] dX5_isReduced_95 (by decide) rfl ?_
              refine px_aload_n hC 0 rfl dX5_isReduced_97 ?_
              refine px_get (C := RX5) (T := TX5) (N := 7) hC hq rfl kkX5_isReduced_X5 5 (by decide) flX5_isReduced_28 rfl dX5_isReduced_98 ?_
              refine px_iload_n hC 2 rfl dX5_isReduced_101 ?_
              refine px_iload hC 5 rfl dX5_isReduced_102 ?_
              refine px_imul hC dX5_isReduced_104 ?_
              refine px_iload hC 6 rfl dX5_isReduced_105 ?_
              refine px_iadd hC dX5_isReduced_107 ?_
              refine px_ei (y := nI ((n + 1) * pq + j)) (by rw [pk_mul, nI_add]) ?_
              refine px_aload_n hC 0 rfl dX5_isReduced_108 ?_
              refine px_get (C := RX5) (T := TX5) (N := 7) hC hq rfl kkX5_isReduced_X5 5 (by decide) flX5_isReduced_28 rfl dX5_isReduced_109 ?_
              refine px_iload_n hC 2 rfl dX5_isReduced_112 ?_
              refine px_iload hC 4 rfl dX5_isReduced_113 ?_
              refine px_imul hC dX5_isReduced_115 ?_
              refine px_iload hC 6 rfl dX5_isReduced_116 ?_
              refine px_iadd hC dX5_isReduced_118 ?_
              refine px_ei (y := nI ((n + 1) * k + j)) (by rw [pk_mul, nI_add]) ?_
              refine px_aald (t0 := 2) hC hmx rfl rfl ly (by first | decide | assumption | omega) (hmr _ ly) dX5_isReduced_119 ?_
              refine px_aastG hC hmx aty lx (by first | decide | assumption | omega) dX5_isReduced_120 ?_
              refine px_aload_n hC 0 rfl dX5_isReduced_121 ?_
              refine px_get (C := RX5) (T := TX5) (N := 7) hC (hq.up hqx) rfl kkX5_isReduced_X5 5 (by decide) flX5_isReduced_28 rfl dX5_isReduced_122 ?_
              refine px_iload_n hC 2 rfl dX5_isReduced_125 ?_
              refine px_iload hC 4 rfl dX5_isReduced_126 ?_
              refine px_imul hC dX5_isReduced_128 ?_
              refine px_iload hC 6 rfl dX5_isReduced_129 ?_
              refine px_iadd hC dX5_isReduced_131 ?_
              refine px_ei (y := nI ((n + 1) * k + j)) (by rw [pk_mul, nI_add]) ?_
              refine px_aload hC 7 rfl dX5_isReduced_132 ?_
              refine px_aastG hC hmx.self (atx.up (atx.nk hmx rfl)) ly (by first | decide | assumption | omega) dX5_isReduced_134 ?_
              rw [px_uu]
              refine px_iinc (v := nI (j + 1)) (lv' := [(0, .ref mm), (1, .int (nI n)), (2, .int (nI (n + 1))), (3, .ref (gd 110)), (4, .int (nI k)), (5, .int (nI pq)), (6, .int (nI (j + 1))), (7, .ref (gd (qi' ((n + 1) * pq + j))))]) hC 6 [1, 2, 3, 4, 5, 6, 0, 7] dX5_isReduced_135 rfl (nI_1 j) (by decide) rfl ?_
              refine px_goto hC 70 dX5_isReduced_138 (by decide) ?_
              refine px_lv (lv2 := [(0, .ref mm), (1, .int (nI n)), (2, .int (nI (n + 1))), (3, .ref (gd 110)), (4, .int (nI k)), (5, .int (nI pq)), (6, .int (nI (j + 1)))]) [0, 1, 2, 3, 4, 5, 6] rfl ?_
              have hsw := hWh.oX (va_up (va_up mr ((n + 1) * pq + j) (some (gd (qi' ((n + 1) * k + j))))) ((n + 1) * k + j) (some (gd (qi' ((n + 1) * pq + j))))) (sw qi' ((n + 1) * k + j) ((n + 1) * pq + j)) (fun t ht => by
                rw [swA]
                by_cases q : t = (n + 1) * k + j
                · subst q; rw [va_up_self, if_pos rfl]
                · rw [va_up_ne _ _ q, if_neg q]
                  by_cases q2 : t = (n + 1) * pq + j
                  · subst q2; rw [va_up_self, if_pos rfl]
                  · rw [va_up_ne _ _ q2, if_neg q2]; exact hmr t ht) (fun t ht => by rw [sw_id qi']; exact hpi _ (sw_lt ly lx ht)) (sw_inj ly lx hpj)
              refine ihv (j + 1) _ _ (by omega) hsw (fun b h2 h3 => by rw [va_up_ne _ _ h2]; exact hfh b h2 h3) (fun a cc ha hc => ?_)
              rw [swA]
              by_cases q : (n + 1) * a + cc = (n + 1) * k + j
              · obtain ⟨e1, e2⟩ := ix_inj hc hjn q
                subst e1; subst e2
                rw [if_pos rfl, hqi pq cc hpn hc, if_neg (Nat.lt_irrefl _), if_pos (by omega), swA, if_pos rfl]; rfl
              · rw [if_neg q]
                by_cases q2 : (n + 1) * a + cc = (n + 1) * pq + j
                · obtain ⟨e1, e2⟩ := ix_inj hc hjn q2
                  subst e1; subst e2
                  rw [if_pos rfl, hqi k cc hkn hc, if_neg (Nat.lt_irrefl _), if_pos (by omega), swA, if_neg hpe, if_pos rfl]; rfl
                · rw [if_neg q2, hqi a cc ha hc]
                  by_cases q3 : cc < j
                  · rw [if_pos q3, if_pos (by omega)]
                  · rw [if_neg q3]
                    by_cases q4 : cc < j + 1
                    · have e3 : cc = j := by omega
                      subst e3
                      rw [if_pos q4, swA, if_neg (fun h => q (by rw [h])), if_neg (fun h => q2 (by rw [h]))]; rfl
                    · rw [if_neg q4]
          refine px_iconst (v := nI 0) hC (by decide) dX5_isReduced_67 ?_
          refine px_istore (lv' := [(0, .ref mm), (1, .int (nI n)), (2, .int (nI (n + 1))), (3, .ref (gd 110)), (4, .int (nI k)), (5, .int (nI pq)), (6, .int (nI 0))]) hC [1, 2, 3, 4, 5, 6, 0] dX5_isReduced_68 (by decide) rfl ?_
          exact swapL (n + 1) 0 g qi (by omega) hWg hfr (fun a cc ha hc => by rw [if_neg (by omega)])
      have find : ∀ (v pq : Nat), pq + v = n → k ≤ pq → fnd M k k (n - k) = fnd M k pq v → px p l e (px_rm 4 98) s m [.ref mm, .int (nI n)].toArray below meth c 8 E A s.heap L (g) 0 0 Q 29 [(0, .ref mm), (1, .int (nI n)), (2, .int (nI (n + 1))), (3, .ref (gd 110)), (4, .int (nI k)), (5, .int (nI pq))] [] := by
        intro v
        induction v with
        | zero =>
          intro pq hp hkp hf
          have ep : pq = n := by omega
          subst ep
          refine px_iload hC 5 rfl dX5_isReduced_29 ?_
          refine px_iload_n hC 1 rfl dX5_isReduced_31 ?_
          refine px_icmp_ge hC 59 dX5_isReduced_32 (by decide) (fun _ => ?_) (fun q9 => (q9 (nI_le (Nat.le_refl _) (by omega))).elim)
          refine px_iload hC 5 rfl dX5_isReduced_59 ?_
          refine px_iload_n hC 1 rfl dX5_isReduced_61 ?_
          refine px_icmp_ne hC 67 dX5_isReduced_62 (by decide) (fun q9 => (q9 (rfl)).elim) (fun _ => ?_)
          refine px_iconst (v := nI 0) hC (by decide) dX5_isReduced_65 ?_
          subst hQ
          exact px_zret hC rfl (by decide) (⟨_, rfl, rfl, qi, W, hWg, hfr, Or.inl ⟨by rw [hb]; show (match fnd M k k (pq - k) with | none => none | some p => brun pq u (k + 1) (M p k) (el (sw M k p) k d)) = _; rw [hf]; rfl, rfl⟩⟩) dX5_isReduced_66
        | succ v ihv =>
          intro pq hp hkp hf
          obtain ⟨hq, -, -, -, ⟨mr, hmx, hmr⟩, ⟨sr, hso, hsr⟩, hU, -, hpi, hpj⟩ := id hWg
          have lx := ix_lt hn (show pq < n by omega) (show k ≤ n by omega)
          have px := hpi _ lx
          have wx := wM pq k (by omega) (by omega)
          obtain ⟨pfx, atx⟩ := hU.at (show qi ((n + 1) * pq + k) < 118 by omega)
          refine px_iload hC 5 rfl dX5_isReduced_29 ?_
          refine px_iload_n hC 1 rfl dX5_isReduced_31 ?_
          refine px_icmp_ge hC 59 dX5_isReduced_32 (by decide) (fun q9 => absurd q9 (nI_ge (by omega) (by omega))) (fun _ => ?_)
          refine px_aload_n hC 0 rfl dX5_isReduced_35 ?_
          refine px_get (C := RX5) (T := TX5) (N := 7) hC hq rfl kkX5_isReduced_X5 5 (by decide) flX5_isReduced_28 rfl dX5_isReduced_36 ?_
          refine px_iload_n hC 2 rfl dX5_isReduced_39 ?_
          refine px_iload hC 5 rfl dX5_isReduced_40 ?_
          refine px_imul hC dX5_isReduced_42 ?_
          refine px_iload hC 4 rfl dX5_isReduced_43 ?_
          refine px_iadd hC dX5_isReduced_45 ?_
          refine px_ei (y := nI ((n + 1) * pq + k)) (by rw [pk_mul, nI_add]) ?_
          refine px_aald (t0 := 2) hC hmx rfl rfl lx (by first | decide | assumption | omega) (hmr _ lx) dX5_isReduced_46 ?_
          refine px_callVi (C := RX4) (T := TX4) (N := 4) (st := []) (nn := 0) hC (c_uZero l (qi ((n + 1) * pq + k)) hU (by omega)) atx rfl gX5_isReduced_X4_isZero rfl (by decide +kernel) (by decide) (Nat.le_of_ble_eq_true rfl) (by decide) rfl rfl dX5_isReduced_47 (fun z g1 hz => ?_)
          obtain ⟨rfl, hz⟩ := hz
          rw [wx] at hz
          rcases hz with ⟨rfl, h0⟩ | ⟨rfl, h0⟩
          · refine px_if_eq hC 59 dX5_isReduced_50 (by decide) (fun q9 => absurd q9 (by decide)) (fun _ => ?_)
            refine px_iinc (v := nI (pq + 1)) (lv' := [(0, .ref mm), (1, .int (nI n)), (2, .int (nI (n + 1))), (3, .ref (gd 110)), (4, .int (nI k)), (5, .int (nI (pq + 1)))]) hC 5 [1, 2, 3, 4, 5, 0] dX5_isReduced_53 rfl (nI_1 pq) (by decide) rfl ?_
            refine px_goto hC 29 dX5_isReduced_56 (by decide) ?_
            exact ihv (pq + 1) (by omega) (by omega) (by rw [hf]; show (if M pq k = 0 then fnd M k (pq + 1) v else some pq) = _; rw [if_pos h0])
          · refine px_if_eq hC 59 dX5_isReduced_50 (by decide) (fun _ => ?_) (fun q9 => (q9 (by decide)).elim)
            refine px_iload hC 5 rfl dX5_isReduced_59 ?_
            refine px_iload_n hC 1 rfl dX5_isReduced_61 ?_
            refine px_icmp_ne hC 67 dX5_isReduced_62 (by decide) (fun _ => ?_) (fun q9 => absurd q9 (fun q => absurd (nI_inj2 (by omega) (by omega) q) (by omega)))
            exact found pq hkp (by omega) h0 (by rw [hf]; show (if M pq k = 0 then fnd M k (pq + 1) v else some pq) = _; rw [if_neg h0])
      refine px_iload hC 4 rfl dX5_isReduced_19 ?_
      refine px_iload_n hC 1 rfl dX5_isReduced_21 ?_
      refine px_icmp_ge hC 195 dX5_isReduced_22 (by decide) (fun q9 => absurd q9 (nI_ge (by omega) (by omega))) (fun _ => ?_)
      refine px_iload hC 4 rfl dX5_isReduced_25 ?_
      refine px_istore (lv' := [(0, .ref mm), (1, .int (nI n)), (2, .int (nI (n + 1))), (3, .ref (gd 110)), (4, .int (nI k)), (5, .int (nI k))]) hC [1, 2, 3, 4, 5, 0] dX5_isReduced_27 (by decide) rfl ?_
      exact find (n - k) k (by omega) (Nat.le_refl k) rfl
  obtain ⟨hq, -, -, -, -, ⟨sr, hso, hsr⟩, hU, -, hpi, -⟩ := id hW
  have s0 : sr 0 = some (gd 110) := hsr 0 (by decide)
  obtain ⟨pf0, at0⟩ := hU.at (show 110 < 118 by decide)
  refine px_iload_n hC 1 rfl dX5_isReduced_0 ?_
  refine px_iconst (v := nI 1) hC (by decide) dX5_isReduced_1 ?_
  refine px_iadd hC dX5_isReduced_2 ?_
  refine px_ei (y := nI (n + 1)) (nI_1 n) ?_
  refine px_istore_n (lv' := [(0, .ref mm), (1, .int (nI n)), (2, .int (nI (n + 1)))]) hC [1, 2, 0] dX5_isReduced_3 (by decide) rfl ?_
  refine px_aload_n hC 0 rfl dX5_isReduced_4 ?_
  refine px_get (C := RX5) (T := TX5) (N := 7) hC hq rfl kkX5_isReduced_X5 6 (by decide) flX5_isReduced_32 rfl dX5_isReduced_5 ?_
  refine px_iconst (v := nI 0) hC (by decide) dX5_isReduced_8 ?_
  refine px_aald (t0 := 2) hC hso rfl rfl (by decide) (by first | decide | assumption | omega) s0 dX5_isReduced_9 ?_
  refine px_astore_n (lv' := [(0, .ref mm), (1, .int (nI n)), (2, .int (nI (n + 1))), (3, .ref (gd 110))]) hC [1, 2, 3, 0] dX5_isReduced_10 (by decide) rfl ?_
  refine px_aload_n hC 3 rfl dX5_isReduced_11 ?_
  refine px_lconst (v := lN 1) hC (by decide) dX5_isReduced_12 ?_
  refine px_el (y := lS 0 1) (rfl) ?_
  refine px_callVv (C := RX4) (T := TX4) (N := 4) (st := []) (nn := 1) hC (c_uSet l 110 0 1 hU (by decide) (by decide) (by decide) (fun h => absurd h (by decide))) at0 rfl gX5_isReduced_X4_set rfl (by decide +kernel) (by decide) (Nat.le_of_ble_eq_true rfl) (by decide) rfl rfl dX5_isReduced_13 (fun g0 h0 => ?_)
  obtain ⟨gu0, gk0⟩ := h0
  obtain ⟨W0, e0, x0, k0⟩ := up_ex V 110 (vS 0 1)
  rw [← e0] at gu0
  refine px_iconst (v := nI 0) hC (by decide) dX5_isReduced_16 ?_
  refine px_istore (lv' := [(0, .ref mm), (1, .int (nI n)), (2, .int (nI (n + 1))), (3, .ref (gd 110)), (4, .int (nI 0))]) hC [1, 2, 3, 4, 0] dX5_isReduced_17 (by decide) rfl ?_
  refine outer n 0 g0 1 A0 (by omega) ⟨A0, pi, W0, bI_0 A0 n, hA, hW.K gu0 gk0, fun b _ h3 => gk0 b h3, x0, fun a j ha hj => ?_⟩ rfl
  have := hpi _ (ix_lt hn ha hj)
  rw [k0 _ (by omega)]
  exact hM a j ha hj
end MM
