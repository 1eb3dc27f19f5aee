
/-! ===== the elimination's state, and its run ===== -/
def fc : Nat → Nat
  | 0 => 1
  | n + 1 => (n + 1) * fc n
theorem wg_le {a : Nat → Int} {K D : Nat} (ha : ∀ c, (a c).natAbs ≤ D) (cs : List Nat) : ∀ F : List Nat → Int, (∀ t, t.length + 1 = cs.length → (F t).natAbs ≤ K) → (wg a F cs).natAbs ≤ cs.length * (D * K) := by
  induction cs with
  | nil => intro F _; simp [wg]
  | cons c cs ih =>
    intro F hF
    have h1 := ih (fun t => F (c :: t)) (fun t ht => hF (c :: t) (by simp only [List.length_cons] at ht ⊢; omega))
    have h2 := hF cs (by simp)
    have h3 : (a c * F cs).natAbs ≤ D * K := by rw [Int.natAbs_mul]; exact Nat.mul_le_mul (ha c) h2
    show (a c * F cs - wg a (fun t => F (c :: t)) cs).natAbs ≤ (cs.length + 1) * (D * K)
    rw [Nat.add_mul, Nat.one_mul]
    generalize wg a (fun t => F (c :: t)) cs = u at h1 ⊢
    generalize a c * F cs = v at h3 ⊢
    generalize cs.length * (D * K) = P at h1 ⊢
    omega
theorem dt_le {D : Nat} (rows : List (Nat → Int)) : (∀ a ∈ rows, ∀ c, (a c).natAbs ≤ D) → ∀ cs : List Nat, cs.length = rows.length → (dt rows cs).natAbs ≤ fc rows.length * D ^ rows.length := by
  induction rows with
  | nil => intro _ cs _; simp [dt, fc]
  | cons a rows ih =>
    intro h cs hc
    have h1 := wg_le (K := fc rows.length * D ^ rows.length) (h a List.mem_cons_self) cs (dt rows) (fun t ht => ih (fun b hb => h b (List.mem_cons_of_mem _ hb)) t (by simp only [List.length_cons] at hc; omega))
    show (wg a (dt rows) cs).natAbs ≤ ((rows.length + 1) * fc rows.length) * D ^ (rows.length + 1)
    have e : ((rows.length + 1) * fc rows.length) * D ^ (rows.length + 1) = cs.length * (D * (fc rows.length * D ^ rows.length)) := by
      rw [hc, List.length_cons, Nat.pow_succ]; grind
    rw [e]; exact h1
theorem wg_kd_le {l K : Nat} (cs : List Nat) : cs.Nodup → ∀ F : List Nat → Int, (∀ t, t.length + 1 = cs.length → (F t).natAbs ≤ K) → (wg (kd l) F cs).natAbs ≤ K := by
  induction cs with
  | nil => intro _ F _; simp [wg]
  | cons c cs ih =>
    intro hn F hF
    have hn' := List.nodup_cons.mp hn
    have h2 := hF cs (by simp)
    show (kd l c * F cs - wg (kd l) (fun t => F (c :: t)) cs).natAbs ≤ K
    by_cases q : c = l
    · subst q
      rw [wg_kd0 cs (fun d hd (e : d = c) => hn'.1 (by rw [← e]; exact hd))]
      simp [kd]
      exact h2
    · have h1 := ih hn'.2 (fun t => F (c :: t)) (fun t ht => hF (c :: t) (by simp only [List.length_cons] at ht ⊢; omega))
      simp [kd, q]
      exact h1
theorem cls_len (k : Nat) : (cls k).length = k := by
  induction k with
  | zero => rfl
  | succ k ih => simp [cls, ih]
theorem rws_len (A : Nat → Nat → Int) (k : Nat) : (rws A k).length = k := by
  induction k with
  | zero => rfl
  | succ k ih => simp [rws, ih]
theorem cls_nd (k : Nat) : (cls k).Nodup := by
  induction k with
  | zero => exact List.nodup_nil
  | succ k ih => exact List.nodup_cons.mpr ⟨fun h => by have := cls_lt k k h; omega, ih⟩
theorem rws_le {A : Nat → Nat → Int} {D : Nat} (h : ∀ i c, (A i c).natAbs ≤ D) (k : Nat) : ∀ a ∈ rws A k, ∀ c, (a c).natAbs ≤ D := by
  induction k with
  | zero => intro a ha; cases ha
  | succ k ih =>
    intro a ha
    rcases List.mem_cons.mp ha with q | q
    · subst q; exact h k
    · exact ih a q
theorem bd_le {A : Nat → Nat → Int} {D : Nat} (h : ∀ i c, (A i c).natAbs ≤ D) (k : Nat) : (bd A k).natAbs ≤ fc k * D ^ k := by
  have := dt_le (rws A k) (rws_le h k) (cls k) (by rw [cls_len, rws_len])
  rw [rws_len] at this
  exact this
theorem bE_le {A : Nat → Nat → Int} {D : Nat} (h : ∀ i c, (A i c).natAbs ≤ D) (k i j : Nat) : (bE A k i j).natAbs ≤ fc (k + 1) * D ^ (k + 1) := by
  have := dt_le (A i :: rws A k) (fun a ha => by
    rcases List.mem_cons.mp ha with q | q
    · subst q; exact h i
    · exact rws_le h k a q) (j :: cls k) (by simp [cls_len, rws_len])
  rw [List.length_cons, rws_len] at this
  exact this
theorem bC_le {A : Nat → Nat → Int} {D : Nat} (h : ∀ i c, (A i c).natAbs ≤ D) (k l j : Nat) : (bC A k l j).natAbs ≤ fc k * D ^ k := by
  refine wg_kd_le (cls k) (cls_nd k) _ (fun t ht => ?_)
  rw [cls_len] at ht
  have := dt_le (rws A k) (rws_le h k) (j :: t) (by rw [rws_len, List.length_cons]; exact ht)
  rw [rws_len] at this
  exact this
def sw {α : Type} (M : Nat → α) (k p : Nat) : Nat → α := fun i => if i = k then M p else if i = p then M k else M i
def el (M : Nat → Nat → Int) (k : Nat) (d : Int) : Nat → Nat → Int := fun i j => if i = k then M k j else (M k k * M i j - M i k * M k j) / d
def bI (A : Nat → Nat → Int) (n k : Nat) (d : Int) (M : Nat → Nat → Int) : Prop := d = bd A k ∧ (∀ m, m ≤ k → bd A m ≠ 0) ∧ (∀ i j, k ≤ i → i < n → k ≤ j → j ≤ n → M i j = bE A k i j) ∧ (∀ i j, i < k → k ≤ j → j ≤ n → M i j = bC A k i j) ∧ ∀ i j, i < n → j < k → M i j = if i = j then d else 0
theorem bI_0 (A : Nat → Nat → Int) (n : Nat) : bI A n 0 1 A := by
  refine ⟨rfl, fun m hm => ?_, fun i j _ _ _ _ => ?_, fun i j h => absurd h (by omega), fun i j _ h => absurd h (by omega)⟩
  · rw [show m = 0 by omega]; exact (by decide : (1 : Int) ≠ 0)
  · show _ = A i j * 1 - 0
    omega
theorem rws_sw (A : Nat → Nat → Int) {k p q : Nat} (h1 : q ≤ k) (h2 : q ≤ p) : rws (sw A k p) q = rws A q := by
  induction q with
  | zero => rfl
  | succ q ih =>
    show sw A k p q :: rws (sw A k p) q = A q :: rws A q
    rw [ih (by omega) (by omega)]
    congr 1
    unfold sw
    rw [if_neg (by omega), if_neg (by omega)]
theorem bI_sw {A : Nat → Nat → Int} {n k p : Nat} {d : Int} {M : Nat → Nat → Int} (h : bI A n k d M) (h1 : k ≤ p) (h2 : p < n) : bI (sw A k p) n k d (sw M k p) := by
  obtain ⟨a1, a2, a3, a4, a5⟩ := h
  have e1 : ∀ m, m ≤ k → bd (sw A k p) m = bd A m := fun m hm => by unfold bd; rw [rws_sw A hm (by omega)]
  have e2 : ∀ i j, bE (sw A k p) k i j = dt (sw A k p i :: rws A k) (j :: cls k) := fun i j => by unfold bE; rw [rws_sw A (Nat.le_refl k) h1]
  refine ⟨a1.trans (e1 k (Nat.le_refl k)).symm, fun m hm => by rw [e1 m hm]; exact a2 m hm, fun i j h3 h4 h5 h6 => ?_, fun i j h3 h4 h5 => ?_, fun i j h3 h4 => ?_⟩
  · rw [e2 i j]
    unfold sw
    by_cases q : i = k
    · simp only [q, if_true]
      exact a3 p j h1 h2 h5 h6
    · by_cases q2 : i = p
      · simp only [q2]
        by_cases q3 : p = k
        · simp only [q3, if_true]; exact a3 k j (by omega) (by omega) h5 h6
        · simp only [q3, if_false, if_true]; exact a3 k j (by omega) (by omega) h5 h6
      · simp only [q, q2, if_false]; exact a3 i j h3 h4 h5 h6
  · have e : sw M k p i = M i := by unfold sw; rw [if_neg (by omega), if_neg (by omega)]
    rw [e, a4 i j h3 h4 h5]
    unfold bC
    rw [rws_sw A (Nat.le_refl k) h1]
  · unfold sw
    by_cases q : i = k
    · simp only [q, if_true]
      rw [a5 p j h2 h4, if_neg (by omega), if_neg (by omega)]
    · by_cases q2 : i = p
      · simp only [q2]
        by_cases q3 : p = k
        · omega
        · simp only [q3, if_false, if_true]
          rw [a5 k j (by omega) h4, if_neg (by omega), if_neg (by omega)]
      · simp only [q, q2, if_false]; exact a5 i j h3 h4
theorem bI_el {A : Nat → Nat → Int} {n k : Nat} {d : Int} {M : Nat → Nat → Int} (h : bI A n k d M) (hk : k < n) (hp : M k k ≠ 0) : bI A n (k + 1) (M k k) (el M k d) ∧ ∀ i j, i < n → i ≠ k → j ≤ n → M k k * M i j - M i k * M k j = d * el M k d i j := by
  obtain ⟨a1, a2, a3, a4, a5⟩ := h
  have hd : d ≠ 0 := by rw [a1]; exact a2 k (Nat.le_refl k)
  have e0 : M k k = bd A (k + 1) := by rw [bd_s]; exact a3 k k (Nat.le_refl k) hk (Nat.le_refl k) (by omega)
  have a2' : ∀ m, m ≤ k + 1 → bd A m ≠ 0 := fun m hm => by
    by_cases q : m = k + 1
    · subst q; rw [← e0]; exact hp
    · exact a2 m (by omega)
  have hs := fun j => b_step A k j a2'
  have key : ∀ i j, i < n → i ≠ k → j ≤ n → ∃ v, M k k * M i j - M i k * M k j = d * v ∧ (k + 1 ≤ j → k + 1 ≤ i → v = bE A (k + 1) i j) ∧ (k + 1 ≤ j → i < k → v = bC A (k + 1) i j) ∧ (j < k + 1 → v = if i = j then M k k else 0) := by
    intro i j hi hik hj
    by_cases q : k + 1 ≤ j
    · have ekj : M k j = bE A k k j := a3 k j (Nat.le_refl k) hk (by omega) hj
      by_cases q2 : k + 1 ≤ i
      · refine ⟨bE A (k + 1) i j, ?_, fun _ _ => rfl, fun _ h => absurd h (by omega), fun h => absurd h (by omega)⟩
        rw [e0, ekj, a3 i j (by omega) hi (by omega) hj, a3 i k (by omega) hi (Nat.le_refl k) (by omega), a1]
        exact ((hs j).2 i).symm
      · refine ⟨bC A (k + 1) i j, ?_, fun _ h => absurd h (by omega), fun _ _ => rfl, fun h => absurd h (by omega)⟩
        rw [e0, ekj, a4 i j (by omega) (by omega) hj, a4 i k (by omega) (Nat.le_refl k) (by omega), a1]
        exact ((hs j).1 i (by omega)).symm
    · by_cases q2 : j = k
      · subst q2
        refine ⟨0, by grind, fun h => absurd h (by omega), fun h => absurd h (by omega), fun _ => by rw [if_neg hik]⟩
      · have ekj : M k j = 0 := by rw [a5 k j hk (by omega), if_neg (by omega)]
        have eij := a5 i j hi (by omega)
        refine ⟨if i = j then M k k else 0, ?_, fun h => absurd h (by omega), fun h => absurd h (by omega), fun _ => rfl⟩
        rw [ekj, eij]
        by_cases q3 : i = j
        · simp only [q3, if_true]; grind
        · simp only [q3, if_false]; grind
  have hel : ∀ i j, i < n → i ≠ k → j ≤ n → M k k * M i j - M i k * M k j = d * el M k d i j := by
    intro i j hi hik hj
    obtain ⟨v, hv, -⟩ := key i j hi hik hj
    unfold el
    rw [if_neg hik, hv, Int.mul_ediv_cancel_left _ hd]
  have hv2 : ∀ i j v, i < n → i ≠ k → j ≤ n → M k k * M i j - M i k * M k j = d * v → el M k d i j = v := by
    intro i j v hi hik hj h
    unfold el
    rw [if_neg hik, h, Int.mul_ediv_cancel_left _ hd]
  refine ⟨⟨e0, a2', fun i j h1 h2 h3 h4 => ?_, fun i j h1 h2 h3 => ?_, fun i j h1 h2 => ?_⟩, hel⟩
  · obtain ⟨v, hv, hA, -⟩ := key i j h2 (by omega) h4
    rw [hv2 i j v h2 (by omega) h4 hv, hA h3 h1]
  · by_cases q : i = k
    · subst q
      unfold el
      rw [if_pos rfl, bC_k]
      exact a3 i j (Nat.le_refl i) hk (by omega) h3
    · obtain ⟨v, hv, -, hB, -⟩ := key i j (by omega) q h3
      rw [hv2 i j v (by omega) q h3 hv, hB h2 (by omega)]
  · by_cases q : i = k
    · subst q
      unfold el
      rw [if_pos rfl]
      by_cases q2 : j = i
      · subst q2; rw [if_pos rfl]
      · rw [a5 i j hk (by omega), if_neg (by omega), if_neg (by omega)]
    · obtain ⟨v, hv, -, -, hD⟩ := key i j h1 q (by omega)
      rw [hv2 i j v h1 q (by omega) hv, hD h2]
theorem fc_mono {a b D : Nat} (hD : 1 ≤ D) (h : a ≤ b) : fc a * D ^ a ≤ fc b * D ^ b := by
  induction b with
  | zero => rw [show a = 0 by omega]; exact Nat.le_refl _
  | succ b ih =>
    by_cases q : a = b + 1
    · subst q; exact Nat.le_refl _
    · have h1 := ih (by omega)
      have h2 : fc b * D ^ b ≤ (b + 1) * fc b * (D ^ b * D) := by
        have e : (b + 1) * fc b * (D ^ b * D) = (fc b * D ^ b) * ((b + 1) * D) := by grind
        rw [e]
        exact Nat.le_mul_of_pos_right _ (Nat.mul_pos (by omega) (by omega))
      show fc a * D ^ a ≤ (b + 1) * fc b * D ^ (b + 1)
      rw [Nat.pow_succ]
      omega
theorem bI_le {A : Nat → Nat → Int} {n k D : Nat} {d : Int} {M : Nat → Nat → Int} (h : bI A n k d M) (hA : ∀ i c, (A i c).natAbs ≤ D) (hD : 1 ≤ D) (hk : k ≤ n) : ∀ i j, i < n → j ≤ n → (M i j).natAbs ≤ fc (min (k + 1) n) * D ^ (min (k + 1) n) := by
  obtain ⟨a1, a2, a3, a4, a5⟩ := h
  have hkm : k ≤ min (k + 1) n := by omega
  intro i j hi hj
  by_cases q : j < k
  · rw [a5 i j hi q]
    by_cases q2 : i = j
    · rw [if_pos q2, a1]
      exact Nat.le_trans (bd_le hA k) (fc_mono hD hkm)
    · rw [if_neg q2]; exact Nat.zero_le _
  · by_cases q2 : i < k
    · rw [a4 i j q2 (by omega) hj]
      exact Nat.le_trans (bC_le hA k i j) (fc_mono hD hkm)
    · rw [a3 i j (by omega) hi (by omega) hj, show min (k + 1) n = k + 1 by omega]
      exact bE_le hA k i j
theorem bI_d {A : Nat → Nat → Int} {n k D : Nat} {d : Int} {M : Nat → Nat → Int} (h : bI A n k d M) (hA : ∀ i c, (A i c).natAbs ≤ D) : d ≠ 0 ∧ d.natAbs ≤ fc k * D ^ k := ⟨by rw [h.1]; exact h.2.1 k (Nat.le_refl k), by rw [h.1]; exact bd_le hA k⟩
/-- the run: the first row p from k on with a number in column k, changed with row k; then the step -/
def fnd (M : Nat → Nat → Int) (k : Nat) : Nat → Nat → Option Nat
  | _, 0 => none
  | p, u + 1 => if M p k = 0 then fnd M k (p + 1) u else some p
def brun (n : Nat) : Nat → Nat → Int → (Nat → Nat → Int) → Option (Int × (Nat → Nat → Int))
  | 0, _, d, M => some (d, M)
  | u + 1, k, d, M => match fnd M k k (n - k) with
    | none => none
    | some p => brun n u (k + 1) (M p k) (el (sw M k p) k d)
theorem fnd_some {M : Nat → Nat → Int} {k : Nat} : ∀ (u p q : Nat), fnd M k p u = some q → p ≤ q ∧ q < p + u ∧ M q k ≠ 0 := by
  intro u
  induction u with
  | zero => intro p q h; cases h
  | succ u ih =>
    intro p q h
    unfold fnd at h
    by_cases e : M p k = 0
    · rw [if_pos e] at h
      have := ih (p + 1) q h
      omega
    · rw [if_neg e] at h
      cases h
      exact ⟨Nat.le_refl p, by omega, e⟩
