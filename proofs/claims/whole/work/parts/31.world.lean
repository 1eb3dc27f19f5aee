
/-! ===== a contract's end, weaker; the reference's 118 numbers ===== -/
theorem px_M.imp {l : Launch} {y : MethodName} {ws : List Cond} {rm : Room} {E : px_E} {L : List Nat} {f : Nat → va_E} {av : List Value} {P P' : Option Value → List Nat → (Nat → va_E) → Prop} (h : px_M l y ws rm E L f av P) (hp : ∀ v L' f', P v L' f' → P' v L' f') : px_M l y ws rm E L f av P' := by
  intro sz p e ha hc hk s m args below hf happ hP hK
  obtain ⟨n, o, h1, h2, h3, ⟨⟨v, L', f', q1, q2, q3⟩, q4⟩, q5⟩ := h sz p e ha hc hk s m args below hf happ hP hK
  exact ⟨n, o, h1, h2, h3, ⟨⟨v, L', f', q1, hp _ _ _ q2, q3⟩, q4⟩, q5⟩
theorem px_M.impv {l : Launch} {y : MethodName} {ws : List Cond} {rm : Room} {E : px_E} {L : List Nat} {f : Nat → va_E} {av : List Value} {P P' : (Nat → va_E) → Prop} (h : px_M l y ws rm E L f av (px_v L P)) (hp : ∀ f', P f' → P' f') : px_M l y ws rm E L f av (px_v L P') := h.imp (fun _ _ _ ⟨a, b, c⟩ => ⟨a, b, hp _ c⟩)
theorem px_M.impi {l : Launch} {y : MethodName} {ws : List Cond} {rm : Room} {E : px_E} {L : List Nat} {f : Nat → va_E} {av : List Value} {P P' : Int32 → (Nat → va_E) → Prop} (h : px_M l y ws rm E L f av (px_i L P)) (hp : ∀ z f', P z f' → P' z f') : px_M l y ws rm E L f av (px_i L P') := h.imp (fun _ _ _ ⟨z, a, b, c⟩ => ⟨z, a, b, hp _ _ c⟩)
def gJ (gd pd : Nat → Nat) : Prop := (∀ u t, u < 118 → t < 118 → gd u = gd t → u = t) ∧ (∀ u t, u < 118 → t < 118 → pd u = pd t → u = t)
def gU (E : px_E) (L : List Nat) (f : Nat → va_E) (gd pd : Nat → Nat) (V : Nat → Int) : Prop := gJ gd pd ∧ ∀ u, u < 118 → gR E L f (gd u) (pd u) (V u)
def gA (gd pd : Nat → Nat) (b : Nat) : Prop := ∃ u, u < 118 ∧ (b = gd u ∨ b = pd u)
def gK (gd pd : Nat → Nat) (f f' : Nat → va_E) : Prop := ∀ b, ¬ gA gd pd b → f' b = f b
theorem gK.rf {gd pd : Nat → Nat} {f : Nat → va_E} : gK gd pd f f := fun _ _ => rfl
theorem gK.tr {gd pd : Nat → Nat} {f g h : Nat → va_E} (h1 : gK gd pd f g) (h2 : gK gd pd g h) : gK gd pd f h := fun b hb => (h2 b hb).trans (h1 b hb)
theorem gA1 {gd pd : Nat → Nat} {u : Nat} (h : u < 118) : gA gd pd (gd u) := ⟨u, h, Or.inl rfl⟩
theorem gA2 {gd pd : Nat → Nat} {u : Nat} (h : u < 118) : gA gd pd (pd u) := ⟨u, h, Or.inr rfl⟩
theorem gU.fr {E : px_E} {L : List Nat} {f h : Nat → va_E} {gd pd : Nat → Nat} {V : Nat → Int} (hU : gU E L f gd pd V) (hf : ∀ b, gA gd pd b → h b = f b) : gU E L h gd pd V := ⟨hU.1, fun u hu => (hU.2 u hu).fr (hf _ (gA1 hu)) (hf _ (gA2 hu))⟩
theorem gU.ng {E : px_E} {L : List Nat} {f : Nat → va_E} {gd pd : Nat → Nat} {V : Nat → Int} (hU : gU E L f gd pd V) {u t : Nat} (hu : u < 118) (ht : t < 118) (h : u ≠ t) : gd u ≠ gd t := fun q => h (hU.1.1 u t hu ht q)
theorem gU.np {E : px_E} {L : List Nat} {f : Nat → va_E} {gd pd : Nat → Nat} {V : Nat → Int} (hU : gU E L f gd pd V) {u t : Nat} (hu : u < 118) (ht : t < 118) (h : u ≠ t) : pd u ≠ pd t := fun q => h (hU.1.2 u t hu ht q)
theorem gU.nx {E : px_E} {L : List Nat} {f : Nat → va_E} {gd pd : Nat → Nat} {V : Nat → Int} (hU : gU E L f gd pd V) {u t : Nat} (hu : u < 118) (ht : t < 118) : gd u ≠ pd t := by
  obtain ⟨n, mi, x, vv, hS, -⟩ := hU.2 u hu
  obtain ⟨n2, mi2, x2, vv2, hS2, -⟩ := hU.2 t ht
  exact hS.1.nk hS2.2 rfl
theorem gU.up {E : px_E} {L : List Nat} {f : Nat → va_E} {gd pd : Nat → Nat} {V : Nat → Int} (hU : gU E L f gd pd V) {u n mi : Nat} {x : Nat → Nat} {vv : Int64} {v : Int} (hu : u < 118) (hC : gC n mi x v) : gU E L (va_up (va_up f (gd u) (.inr (3, gF (pd u) (nI n) (nI mi) vv))) (pd u) (aI E 40 (iw x))) gd pd (va_up V u v) ∧ gK gd pd f (va_up (va_up f (gd u) (.inr (3, gF (pd u) (nI n) (nI mi) vv))) (pd u) (aI E 40 (iw x))) := by
  refine ⟨⟨hU.1, fun t ht => ?_⟩, fun b hb => ?_⟩
  · obtain ⟨n2, mi2, x2, vv2, hS2, hC2⟩ := hU.2 t ht
    by_cases q : t = u
    · subst q
      rw [va_up_self]
      exact ⟨n, mi, x, vv, ⟨hS2.1.self.up (hU.nx hu hu), (hS2.2.up (fun h => hU.nx hu hu h.symm)).self⟩, hC⟩
    · rw [va_up_ne _ _ q]
      exact ⟨n2, mi2, x2, vv2, ⟨(hS2.1.up (hU.ng ht hu q)).up (hU.nx ht hu), (hS2.2.up (fun h => hU.nx hu ht h.symm)).up (hU.np ht hu q)⟩, hC2⟩
  · rw [va_up_ne _ _ (fun h => hb ⟨u, hu, Or.inr h⟩), va_up_ne _ _ (fun h => hb ⟨u, hu, Or.inl h⟩)]
/-- an object of the 118 alone is written: its sign and its long -/
theorem gU.up1 {E : px_E} {L : List Nat} {f : Nat → va_E} {gd pd : Nat → Nat} {V : Nat → Int} (hU : gU E L f gd pd V) {u n mi n0 mi0 : Nat} {x : Nat → Nat} {vv vv0 : Int64} {v : Int} (hu : u < 118) (hS : gS E L f (gd u) (pd u) n0 mi0 x vv0) (hC : gC n mi x v) : gU E L (va_up f (gd u) (.inr (3, gF (pd u) (nI n) (nI mi) vv))) gd pd (va_up V u v) ∧ gK gd pd f (va_up f (gd u) (.inr (3, gF (pd u) (nI n) (nI mi) vv))) ∧ gS E L (va_up f (gd u) (.inr (3, gF (pd u) (nI n) (nI mi) vv))) (gd u) (pd u) n mi x vv := by
  have hne := hU.nx hu hu
  obtain ⟨h1, h2⟩ := hU.up (vv := vv) hu hC
  have e : va_up (va_up f (gd u) (.inr (3, gF (pd u) (nI n) (nI mi) vv))) (pd u) (aI E 40 (iw x)) = va_up f (gd u) (.inr (3, gF (pd u) (nI n) (nI mi) vv)) := px_us (hS.2.up (fun h => hne h.symm)).2
  rw [e] at h1 h2
  exact ⟨h1, h2, hS.1.self, hS.2.up (fun h => hne h.symm)⟩
theorem gC_bd {n mi k : Nat} {x : Nat → Nat} {v : Int} (h : gC n mi x v) (hv : v.natAbs < 268435456 ^ k) : n ≤ k := gC_len h.2.2.1 (by rw [← h.2.2.2.2.1]; exact hv)
section UU
variable {E : px_E} {L : List Nat} {f : Nat → va_E} {gd pd : Nat → Nat} {V : Nat → Int}
theorem gU.at (hU : gU E L f gd pd V) {u : Nat} (hu : u < 118) : ∃ pf, px_at L f (gd u) (.inr (3, pf)) := by
  obtain ⟨n, mi, x, vv, hS, hC⟩ := hU.2 u hu
  exact ⟨_, hS.1⟩
theorem c_uZero (l : Launch) (u : Nat) (hU : gU E L f gd pd V) (hu : u < 118) : px_M l yX4_isZero wsX4_isZero (px_rm 0 0) E L f [.ref (gd u)] (px_i L (fun z f' => f' = f ∧ ((z = nI 1 ∧ V u = 0) ∨ (z = nI 0 ∧ V u ≠ 0)))) := by
  obtain ⟨n, mi, x, vv, hS, hC⟩ := hU.2 u hu
  have h0 := gC_0 hC
  refine (c_gZero l E L f (gd u) (pd u) n mi x vv hS hC.1).impi (fun z f' ⟨e, h⟩ => ⟨e, ?_⟩)
  rcases h with ⟨e1, e2⟩ | ⟨e1, e2⟩
  · exact Or.inl ⟨e1, h0.mp e2⟩
  · exact Or.inr ⟨e1, fun q => e2 (h0.mpr q)⟩
theorem c_uSet (l : Launch) (u b m0 : Nat) (hU : gU E L f gd pd V) (hu : u < 118) (hb : b < 2) (hm : m0 < 2 ^ 62) (hbm : b = 1 → m0 ≠ 0) : px_M l yX4_set wsX4_set (px_rm 0 0) E L f [.ref (gd u), .long (lS b m0)] (px_v L (fun f' => gU E L f' gd pd (va_up V u (vS b m0)) ∧ gK gd pd f f')) := by
  obtain ⟨n, mi, x, vv, hS, hC⟩ := hU.2 u hu
  refine (c_gSet l E L f (gd u) (pd u) n mi b m0 x vv hS hb hm hbm).impv (fun f' ⟨n', x', h, e⟩ => ?_)
  subst e
  exact hU.up hu h
theorem gC_cut {n mi : Nat} {x y : Nat → Nat} {v : Int} (h : gC n mi x v) (hy : ∀ i, i < n → y i = x i) : gC n mi y v := by
  obtain ⟨a1, a2, a3, a4, a5, a6⟩ := h
  exact ⟨a1, fun i hi => by rw [hy i hi]; exact a2 i hi, fun q => by rw [hy _ (by omega)]; exact a3 q, a4, by rw [a5]; exact vl_c (fun i hi => (hy i hi).symm), a6⟩
theorem c_uSet2 (l : Launch) (u t : Nat) (hU : gU E L f gd pd V) (hu : u < 118) (ht : t < 118) (hne : u ≠ t) : px_M l yX4_set_ wsX4_set_ (px_rm 0 0) E L f [.ref (gd u), .ref (gd t)] (px_v L (fun f' => gU E L f' gd pd (va_up V u (V t)) ∧ gK gd pd f f')) := by
  obtain ⟨n, mi, x, vv, hS, hC⟩ := hU.2 u hu
  obtain ⟨n2, mi2, x2, vv2, hS2, hC2⟩ := hU.2 t ht
  refine (c_gSet2 l E L f (gd u) (pd u) (gd t) (pd t) n mi n2 mi2 x x2 vv vv2 hS hS2 (hU.ng hu ht hne) (hU.np hu ht hne) hC2.1 hC2.2.2.2.1).impv (fun f' ⟨x', h, e⟩ => ?_)
  subst e
  exact hU.up hu (gC_cut hC2 h)
theorem c_uProd (l : Launch) (u a b : Nat) (hU : gU E L f gd pd V) (hu : u < 118) (ha : a < 118) (hb : b < 118) (h1 : u ≠ a) (h2 : u ≠ b) (ka : (V a).natAbs < 268435456 ^ 19) (kb : (V b).natAbs < 268435456 ^ 19) : px_M l yX4_product wsX4_product (px_rm 1 21) E L f [.ref (gd u), .ref (gd a), .ref (gd b)] (px_v L (fun f' => gU E L f' gd pd (va_up V u (V a * V b)) ∧ gK gd pd f f')) := by
  obtain ⟨n, mi, x, vv, hS, hC⟩ := hU.2 u hu
  obtain ⟨na, ma, xa, va, hSa, hCa⟩ := hU.2 a ha
  obtain ⟨nb, mb, xb, vb, hSb, hCb⟩ := hU.2 b hb
  have qa := gC_bd hCa ka
  have qb := gC_bd hCb kb
  refine (c_gProd l E L f (gd u) (pd u) (gd a) (pd a) (gd b) (pd b) hS hSa hCa hSb hCb (hU.ng hu ha h1) (hU.ng hu hb h2) (hU.np hu ha h1) (hU.np hu hb h2) (by omega) hC.2.2.2.1).impv (fun f' ⟨n', mi', x', h, e⟩ => ?_)
  subst e
  exact hU.up hu h
theorem c_uTake (l : Launch) (u t : Nat) (hU : gU E L f gd pd V) (hu : u < 118) (ht : t < 118) (hne : u ≠ t) (ku : (V u).natAbs < 268435456 ^ 39) (kt : (V t).natAbs < 268435456 ^ 39) : px_M l yX4_take wsX4_take (px_rm 2 47) E L f [.ref (gd u), .ref (gd t)] (px_v L (fun f' => gU E L f' gd pd (va_up V u (V u - V t)) ∧ gK gd pd f f')) := by
  obtain ⟨n, mi, x, vv, hS, hC⟩ := hU.2 u hu
  obtain ⟨n2, mi2, x2, vv2, hS2, hC2⟩ := hU.2 t ht
  refine (c_gTake l E L f (gd u) (pd u) (gd t) (pd t) hS hC hS2 hC2 (hU.ng hu ht hne) (hU.np hu ht hne) (gC_bd hC ku) (gC_bd hC2 kt)).impv (fun f' ⟨n', mi', x', h, e⟩ => ?_)
  subst e
  exact hU.up hu h
theorem c_uQuot (l : Launch) (u a b r : Nat) (hU : gU E L f gd pd V) (hu : u < 118) (ha : a < 118) (hb : b < 118) (hr : r < 118) (h1 : u ≠ a) (h2 : u ≠ b) (h3 : u ≠ r) (h4 : r ≠ a) (h5 : r ≠ b) (kb : (V b).natAbs < 268435456 ^ 39) (h0 : V b ≠ 0) : px_M l yX4_quotient wsX4_quotient (px_rm 2 47) E L f [.ref (gd u), .ref (gd a), .ref (gd b), .ref (gd r)] (px_v L (fun f' => gU E L f' gd pd (va_up (va_up V u (qz (V a) (V b))) r (((V a).natAbs % (V b).natAbs : Nat) : Int)) ∧ gK gd pd f f')) := by
  obtain ⟨n, mi, x, vv, hS, hC⟩ := hU.2 u hu
  obtain ⟨na, ma, xa, va, hSa, hCa⟩ := hU.2 a ha
  obtain ⟨nb, mb, xb, vb, hSb, hCb⟩ := hU.2 b hb
  obtain ⟨nr, mr, xr, vr, hSr, hCr⟩ := hU.2 r hr
  refine (c_gQuot l E L f (gd u) (pd u) (gd a) (pd a) (gd b) (pd b) (gd r) (pd r) hS hSa hCa hSb hCb hSr (hU.ng hu ha h1) (hU.ng hu hb h2) (hU.ng hu hr h3) (hU.ng hr ha h4) (hU.ng hr hb h5) (hU.np hu ha h1) (hU.np hu hb h2) (hU.np hu hr h3) (hU.np hr ha h4) (hU.np hr hb h5) (gC_bd hCb kb) h0).impv (fun f' ⟨n', mi', x', n2, x2, h, h', e⟩ => ?_)
  subst e
  obtain ⟨q1, q2⟩ := hU.up (vv := vv) hu h
  obtain ⟨q3, q4⟩ := q1.up (vv := vr) hr h'
  exact ⟨q3, q2.tr q4⟩
theorem va_up_same {α : Type} (V : Nat → α) (u : Nat) : va_up V u (V u) = V := by
  funext t
  by_cases q : t = u
  · subst q; rw [va_up_self]
  · rw [va_up_ne _ _ q]
theorem c_uLong (l : Launch) (u : Nat) (hU : gU E L f gd pd V) (hu : u < 118) : px_M l yX4_isLong wsX4_isLong (px_rm 0 0) E L f [.ref (gd u)] (px_i L (fun z f' => gU E L f' gd pd V ∧ (∀ b, b ≠ gd u → f' b = f b) ∧ ((z = nI 1 ∧ (-(2 : Int) ^ 63 ≤ V u ∧ V u < 2 ^ 63) ∧ ∃ pa n mi t, t.toInt = V u ∧ px_at L f' (gd u) (.inr (3, gF pa n mi t))) ∨ (z = nI 0 ∧ ¬ (-(2 : Int) ^ 63 ≤ V u ∧ V u < 2 ^ 63))))) := by
  obtain ⟨n, mi, x, vv, hS, hC⟩ := hU.2 u hu
  obtain ⟨a1, a2, a3, a4, a5, a6⟩ := id hC
  have e0 : vS mi (vl 268435456 x n) = V u := by
    unfold vS
    rcases two_of a4 with q | q
    · rw [if_neg (by omega)]; omega
    · rw [if_pos q]; omega
  have e1 : gok (vl 268435456 x n) mi ↔ (-(2 : Int) ^ 63 ≤ V u ∧ V u < 2 ^ 63) := by
    unfold gok
    rw [← a5]
    rcases two_of a4 with q | q
    · have : ¬ V u < 0 := fun h => by have := a6.mpr h; omega
      constructor
      · intro h; rcases h with h | ⟨h, -⟩ <;> omega
      · intro h; exact Or.inl (by omega)
    · have : V u < 0 := a6.mp q
      constructor
      · intro h; rcases h with h | ⟨-, h⟩ <;> omega
      · intro h; omega
  refine (c_gLong l E L f (gd u) (pd u) n mi x vv hS a1 a2 a3 a4).impi (fun z f' h => ?_)
  rcases h with ⟨e, h, t, ht, rfl⟩ | ⟨e, h, rfl⟩
  · obtain ⟨q1, q2, q3⟩ := hU.up1 (vv := t) hu hS hC
    rw [va_up_same V u] at q1
    exact ⟨q1, fun b hb => va_up_ne _ _ hb, Or.inl ⟨e, e1.mp h, _, _, _, t, by rw [ht, e0], q3.1⟩⟩
  · exact ⟨hU, fun b _ => rfl, Or.inr ⟨e, fun q => h (e1.mpr q)⟩⟩
end UU
