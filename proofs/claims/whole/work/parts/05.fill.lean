/-! ===== rows that agree in their places are one row ===== -/
section PXR
variable {p : Program} {l : Launch} {e : Env} {R : Room} {s : State} {m : MethodId} {args : Array Value} {below : List Frame} {meth : Method} {c : Code} {cc : ByteArray} {own : String} {ws : List Cond} {nL : Nat} {ret : Option FieldType} {E : px_E} {A : Nat → Prop} {H0 : Heap} {L : List Nat} {f : Nat → va_E} {n k : Nat} {Q : State → Prop} {pc : Nat} {lv : List (Nat × Value)} {st : List Value}
theorem px_cg {g : Nat → va_E} (h : ∀ b ∈ L, ∀ H : Heap, va_at E.1 vwCl (b, f b) H → va_at E.1 vwCl (b, g b) H) (kk : px p l e R s m args below meth c nL E A H0 L g n k Q pc lv st) : px p l e R s m args below meth c nL E A H0 L f n k Q pc lv st := by
  intro H locs ls hH hl
  have key : ∀ (j : Nat) (q : Nat × va_E), (va_pl L g)[j]? = some q → ∃ b ∈ L, q = (b, g b) ∧ (va_pl L f)[j]? = some (b, f b) := by
    intro j q hq
    simp only [va_pl, List.getElem?_map] at hq ⊢
    cases hb : L[j]? with
    | none => rw [hb] at hq; cases hq
    | some b =>
      rw [hb] at hq
      exact ⟨b, List.mem_of_getElem? hb, (Option.some.inj hq).symm, rfl⟩
  refine kk H locs ls ⟨fun j q hq => ?_, ⟨fun i j x y hx hy hxy => ?_, fun j q hq => ?_⟩, hH.2.2⟩ hl
  · obtain ⟨b, hb, rfl, h2⟩ := key j q hq
    exact h b hb H (hH.1 j _ h2)
  · obtain ⟨b, hb, rfl, h2⟩ := key i x hx
    obtain ⟨b', hb', rfl, h2'⟩ := key j y hy
    exact hH.2.1.1 i j _ _ h2 h2' hxy
  · obtain ⟨b, hb, rfl, h2⟩ := key j q hq
    exact hH.2.1.2 j (b, f b) h2
theorem arrV_cg {cA : ClassId} {nn : Nat} {z z' : Nat → Value} (h : ∀ i, i < nn → z i = z' i) : arrV cA nn z = arrV cA nn z' := by
  unfold arrV
  congr 1
  apply Array.ext
  · simp
  · intro i h1 h2
    have : i < nn := by simpa using h1
    simp [h i this]
theorem px_rowJ {a nn : Nat} {r r' : Nat → Int64} (h : ∀ i, i < nn → r i = r' i) (kk : px p l e R s m args below meth c nL E A H0 L (va_up f a (aJ E nn r')) n k Q pc lv st) : px p l e R s m args below meth c nL E A H0 L (va_up f a (aJ E nn r)) n k Q pc lv st := by
  refine px_cg (fun b _ H hb => ?_) kk
  by_cases q : b = a
  · subst q
    rw [va_up_self] at hb ⊢
    have h1 : H[b]? = some (arrV (E.2 1) nn (fun j => .long (r j))) := hb
    show H[b]? = some (arrV (E.2 1) nn (fun j => .long (r' j)))
    rw [h1, arrV_cg (fun i hi => by rw [h i hi])]
  · rw [va_up_ne _ _ q] at hb ⊢
    exact hb
theorem px_rowI {a nn : Nat} {r r' : Nat → Int32} (h : ∀ i, i < nn → r i = r' i) (kk : px p l e R s m args below meth c nL E A H0 L (va_up f a (aI E nn r')) n k Q pc lv st) : px p l e R s m args below meth c nL E A H0 L (va_up f a (aI E nn r)) n k Q pc lv st := by
  refine px_cg (fun b _ H hb => ?_) kk
  by_cases q : b = a
  · subst q
    rw [va_up_self] at hb ⊢
    have h1 : H[b]? = some (arrV (E.2 0) nn (fun j => .int (r j))) := hb
    show H[b]? = some (arrV (E.2 0) nn (fun j => .int (r' j)))
    rw [h1, arrV_cg (fun i hi => by rw [h i hi])]
  · rw [va_up_ne _ _ q] at hb ⊢
    exact hb
end PXR

/-- Arrays.fill(long[], long) -/
theorem c_fillJ (l : Launch) (E : px_E) (L : List Nat) (f : Nat → va_E) (a nn : Nat) (r : Nat → Int64) (v : Int64) (hf : px_at L f a (aJ E nn r)) (hn : nn < 2 ^ 31) : px_M l yJ7_fill_d0a16 wsJ7_fill_d0a16 (px_rm 0 0) E L f [.ref a, .long v] (px_v L (fun f' => f' = va_up f a (aJ E nn (fun _ => v)))) := by
  refine px_M.of (cc := cJ7_fill_d0a16) (maxL := 5) (ret := none) (lv := [(0, .ref a), (1, .long v)]) (by decide) rfl (Nat.le_of_ble_eq_true rfl) rfl ?_
  intro p e s m below meth c A hC hnm
  obtain ⟨Q, hQ⟩ : ∃ Q, Q = MQ below (px_Q E (px_v L (fun f' => f' = va_up f a (aJ E nn (fun _ => v)))) A) [.ref a, .long v].toArray s (px_rm 0 0).cells (px_rm 0 0).slots A := ⟨_, rfl⟩
  rw [← hQ]
  have loop : ∀ (d i : Nat), i + d = nn → px p l e (px_rm 0 0) s m [.ref a, .long v].toArray below meth c 5 E A s.heap L (va_up f a (aJ E nn (fun j => if j < i then v else r j))) 0 0 Q 6 [(0, .ref a), (1, .long v), (3, .int (nI i)), (4, .int (nI nn))] [] := by
    intro d
    induction d with
    | zero =>
      intro i hi
      refine px_iload_n hC 2 rfl dJ7_fill_d0a16_6 ?_
      refine px_iload hC 3 rfl dJ7_fill_d0a16_7 ?_
      refine px_icmp_ge hC 22 dJ7_fill_d0a16_9 (by decide) (fun _ => ?_) (fun q9 => (q9 (nI_le (by omega) (by omega))).elim)
      refine px_rowJ (r' := fun _ => v) (fun j hj => if_pos (by omega)) ?_
      subst hQ
      exact px_vret hC rfl (⟨rfl, rfl, rfl⟩) dJ7_fill_d0a16_22
    | succ d ih =>
      intro i hi
      refine px_iload_n hC 2 rfl dJ7_fill_d0a16_6 ?_
      refine px_iload hC 3 rfl dJ7_fill_d0a16_7 ?_
      refine px_icmp_ge hC 22 dJ7_fill_d0a16_9 (by decide) (fun q9 => ((nI_ge (by omega) hn) q9).elim) (fun _ => ?_)
      refine px_aload_n hC 0 rfl dJ7_fill_d0a16_12 ?_
      refine px_iload_n hC 2 rfl dJ7_fill_d0a16_13 ?_
      refine px_lload_n hC 1 rfl dJ7_fill_d0a16_14 ?_
      refine px_last hC (hf.self) (by omega) (by first | decide | assumption | omega) dJ7_fill_d0a16_15 ?_
      refine px_iinc (v := nI (i + 1)) (lv' := [(0, .ref a), (1, .long v), (3, .int (nI (i + 1))), (4, .int (nI nn))]) hC 2 [1, 2, 0, 3] dJ7_fill_d0a16_16 rfl (nI_1 i) (by decide) rfl ?_
      refine px_goto hC 6 dJ7_fill_d0a16_19 (by decide) ?_
      rw [px_uu, show vp_updL (fun j => if j < i then v else r j) i v = (fun j => if j < i + 1 then v else r j) from by
        funext j
        by_cases q : j = i
        · simp [vp_updL, q]
        · by_cases q2 : j < i
          · simp [vp_updL, q, q2, show j < i + 1 by omega]
          · simp [vp_updL, q, q2, show ¬ j < i + 1 by omega]]
      exact ih (i + 1) (by omega)
  refine px_iconst (v := nI 0) hC (by decide) dJ7_fill_d0a16_0 ?_
  refine px_istore_n (lv' := [(0, .ref a), (1, .long v), (3, .int (nI 0))]) hC [1, 2, 0] dJ7_fill_d0a16_1 (by decide) rfl ?_
  refine px_aload_n hC 0 rfl dJ7_fill_d0a16_2 ?_
  refine px_alen (t0 := 1) hC hf rfl dJ7_fill_d0a16_3 ?_
  refine px_istore (lv' := [(0, .ref a), (1, .long v), (3, .int (nI 0)), (4, .int (nI nn))]) hC [1, 2, 3, 0] dJ7_fill_d0a16_4 (by decide) rfl ?_
  have h0 := loop nn 0 (by omega)
  rw [show (fun j => if j < 0 then v else r j) = r from by funext j; simp, px_us hf.2] at h0
  exact h0
/-- Arrays.fill(int[], int) -/
theorem c_fillI (l : Launch) (E : px_E) (L : List Nat) (f : Nat → va_E) (a nn : Nat) (r : Nat → Int32) (v : Int32) (hf : px_at L f a (aI E nn r)) (hn : nn < 2 ^ 31) : px_M l yJ7_fill_53178 wsJ7_fill_53178 (px_rm 0 0) E L f [.ref a, .int v] (px_v L (fun f' => f' = va_up f a (aI E nn (fun _ => v)))) := by
  refine px_M.of (cc := cJ7_fill_53178) (maxL := 4) (ret := none) (lv := [(0, .ref a), (1, .int v)]) (by decide) rfl (Nat.le_of_ble_eq_true rfl) rfl ?_
  intro p e s m below meth c A hC hnm
  obtain ⟨Q, hQ⟩ : ∃ Q, Q = MQ below (px_Q E (px_v L (fun f' => f' = va_up f a (aI E nn (fun _ => v)))) A) [.ref a, .int v].toArray s (px_rm 0 0).cells (px_rm 0 0).slots A := ⟨_, rfl⟩
  rw [← hQ]
  have loop : ∀ (d i : Nat), i + d = nn → px p l e (px_rm 0 0) s m [.ref a, .int v].toArray below meth c 4 E A s.heap L (va_up f a (aI E nn (fun j => if j < i then v else r j))) 0 0 Q 5 [(0, .ref a), (1, .int v), (2, .int (nI i)), (3, .int (nI nn))] [] := by
    intro d
    induction d with
    | zero =>
      intro i hi
      refine px_iload_n hC 2 rfl dJ7_fill_53178_5 ?_
      refine px_iload_n hC 3 rfl dJ7_fill_53178_6 ?_
      refine px_icmp_ge hC 20 dJ7_fill_53178_7 (by decide) (fun _ => ?_) (fun q9 => (q9 (nI_le (by omega) (by omega))).elim)
      refine px_rowI (r' := fun _ => v) (fun j hj => if_pos (by omega)) ?_
      subst hQ
      exact px_vret hC rfl (⟨rfl, rfl, rfl⟩) dJ7_fill_53178_20
    | succ d ih =>
      intro i hi
      refine px_iload_n hC 2 rfl dJ7_fill_53178_5 ?_
      refine px_iload_n hC 3 rfl dJ7_fill_53178_6 ?_
      refine px_icmp_ge hC 20 dJ7_fill_53178_7 (by decide) (fun q9 => ((nI_ge (by omega) hn) q9).elim) (fun _ => ?_)
      refine px_aload_n hC 0 rfl dJ7_fill_53178_10 ?_
      refine px_iload_n hC 2 rfl dJ7_fill_53178_11 ?_
      refine px_iload_n hC 1 rfl dJ7_fill_53178_12 ?_
      refine px_iast hC (hf.self) (by omega) (by first | decide | assumption | omega) dJ7_fill_53178_13 ?_
      refine px_iinc (v := nI (i + 1)) (lv' := [(0, .ref a), (1, .int v), (2, .int (nI (i + 1))), (3, .int (nI nn))]) hC 2 [1, 2, 0, 3] dJ7_fill_53178_14 rfl (nI_1 i) (by decide) rfl ?_
      refine px_goto hC 5 dJ7_fill_53178_17 (by decide) ?_
      rw [px_uu, show upd (fun j => if j < i then v else r j) i v = (fun j => if j < i + 1 then v else r j) from by
        funext j
        by_cases q : j = i
        · simp [upd, q]
        · by_cases q2 : j < i
          · simp [upd, q, q2, show j < i + 1 by omega]
          · simp [upd, q, q2, show ¬ j < i + 1 by omega]]
      exact ih (i + 1) (by omega)
  refine px_iconst (v := nI 0) hC (by decide) dJ7_fill_53178_0 ?_
  refine px_istore_n (lv' := [(0, .ref a), (1, .int v), (2, .int (nI 0))]) hC [1, 2, 0] dJ7_fill_53178_1 (by decide) rfl ?_
  refine px_aload_n hC 0 rfl dJ7_fill_53178_2 ?_
  refine px_alen (t0 := 0) hC hf rfl dJ7_fill_53178_3 ?_
  refine px_istore_n (lv' := [(0, .ref a), (1, .int v), (2, .int (nI 0)), (3, .int (nI nn))]) hC [1, 2, 3, 0] dJ7_fill_53178_4 (by decide) rfl ?_
  have h0 := loop nn 0 (by omega)
  rw [show (fun j => if j < 0 then v else r j) = r from by funext j; simp, px_us hf.2] at h0
  exact h0
/-- Arrays.rangeCheck, where nothing is wrong -/
theorem c_range (l : Launch) (E : px_E) (L : List Nat) (f : Nat → va_E) (nn a b : Nat) (h1 : a ≤ b) (h2 : b ≤ nn) (hn : nn < 2 ^ 31) : px_M l yJ7_rangeCheck_23922 wsJ7_rangeCheck_23922 (px_rm 0 0) E L f [.int (nI nn), .int (nI a), .int (nI b)] (px_v L (fun f' => f' = f)) := by
  refine px_M.of (cc := cJ7_rangeCheck_23922) (maxL := 3) (ret := none) (lv := [(0, .int (nI nn)), (1, .int (nI a)), (2, .int (nI b))]) (by decide) rfl (Nat.le_of_ble_eq_true rfl) rfl ?_
  intro p e s m below meth c A hC hnm
  obtain ⟨Q, hQ⟩ : ∃ Q, Q = MQ below (px_Q E (px_v L (fun f' => f' = f)) A) [.int (nI nn), .int (nI a), .int (nI b)].toArray s (px_rm 0 0).cells (px_rm 0 0).slots A := ⟨_, rfl⟩
  rw [← hQ]
  refine px_iload_n hC 1 rfl dJ7_rangeCheck_23922_0 ?_
  refine px_iload_n hC 2 rfl dJ7_rangeCheck_23922_1 ?_
  refine px_icmp_le hC 46 dJ7_rangeCheck_23922_2 (by decide) (fun _ => ?_) (fun q9 => (q9 (nI_le h1 (by omega))).elim)
  refine px_iload_n hC 1 rfl dJ7_rangeCheck_23922_46 ?_
  refine px_if_ge hC 59 dJ7_rangeCheck_23922_47 (by decide) (fun _ => ?_) (fun q9 => (q9 (nI_pos' (by omega))).elim)
  refine px_iload_n hC 2 rfl dJ7_rangeCheck_23922_59 ?_
  refine px_iload_n hC 0 rfl dJ7_rangeCheck_23922_60 ?_
  refine px_icmp_le hC 73 dJ7_rangeCheck_23922_61 (by decide) (fun _ => ?_) (fun q9 => (q9 (nI_le h2 hn)).elim)
  subst hQ
  exact px_vret hC rfl (⟨rfl, rfl, rfl⟩) dJ7_rangeCheck_23922_73
/-- Arrays.fill(long[], from, to, long) -/
theorem c_fillR (l : Launch) (E : px_E) (L : List Nat) (f : Nat → va_E) (a nn lo hi : Nat) (r : Nat → Int64) (v : Int64) (hf : px_at L f a (aJ E nn r)) (h1 : lo ≤ hi) (h2 : hi ≤ nn) (hn : nn < 2 ^ 31) : px_M l yJ7_fill_bad5a wsJ7_fill_bad5a (px_rm 1 22) E L f [.ref a, .int (nI lo), .int (nI hi), .long v] (px_v L (fun f' => f' = va_up f a (aJ E nn (fun j => if lo ≤ j ∧ j < hi then v else r j)))) := by
  refine px_M.of (cc := cJ7_fill_bad5a) (maxL := 6) (ret := none) (lv := [(0, .ref a), (1, .int (nI lo)), (2, .int (nI hi)), (3, .long v)]) (by decide) rfl (Nat.le_of_ble_eq_true rfl) rfl ?_
  intro p e s m below meth c A hC hnm
  obtain ⟨Q, hQ⟩ : ∃ Q, Q = MQ below (px_Q E (px_v L (fun f' => f' = va_up f a (aJ E nn (fun j => if lo ≤ j ∧ j < hi then v else r j)))) A) [.ref a, .int (nI lo), .int (nI hi), .long v].toArray s (px_rm 1 22).cells (px_rm 1 22).slots A := ⟨_, rfl⟩
  rw [← hQ]
  have loop : ∀ (d i : Nat), i + d = hi → lo ≤ i → px p l e (px_rm 1 22) s m [.ref a, .int (nI lo), .int (nI hi), .long v].toArray below meth c 6 E A s.heap L (va_up f a (aJ E nn (fun j => if lo ≤ j ∧ j < i then v else r j))) 0 0 Q 10 [(0, .ref a), (1, .int (nI lo)), (2, .int (nI hi)), (3, .long v), (5, .int (nI i))] [] := by
    intro d
    induction d with
    | zero =>
      intro i hi0 hlo
      refine px_iload hC 4 rfl dJ7_fill_bad5a_10 ?_
      refine px_iload_n hC 2 rfl dJ7_fill_bad5a_12 ?_
      refine px_icmp_ge hC 27 dJ7_fill_bad5a_13 (by decide) (fun _ => ?_) (fun q9 => (q9 (nI_le (by omega) (by omega))).elim)
      rw [show i = hi by omega]
      subst hQ
      exact px_vret hC rfl (⟨rfl, rfl, rfl⟩) dJ7_fill_bad5a_27
    | succ d ih =>
      intro i hi0 hlo
      refine px_iload hC 4 rfl dJ7_fill_bad5a_10 ?_
      refine px_iload_n hC 2 rfl dJ7_fill_bad5a_12 ?_
      refine px_icmp_ge hC 27 dJ7_fill_bad5a_13 (by decide) (fun q9 => ((nI_ge (by omega) (by omega)) q9).elim) (fun _ => ?_)
      refine px_aload_n hC 0 rfl dJ7_fill_bad5a_16 ?_
      refine px_iload hC 4 rfl dJ7_fill_bad5a_17 ?_
      refine px_lload_n hC 3 rfl dJ7_fill_bad5a_19 ?_
      refine px_last hC (hf.self) (by omega) (by first | decide | assumption | omega) dJ7_fill_bad5a_20 ?_
      refine px_iinc (v := nI (i + 1)) (lv' := [(0, .ref a), (1, .int (nI lo)), (2, .int (nI hi)), (3, .long v), (5, .int (nI (i + 1)))]) hC 4 [1, 2, 3, 4, 0] dJ7_fill_bad5a_21 rfl (nI_1 i) (by decide) rfl ?_
      refine px_goto hC 10 dJ7_fill_bad5a_24 (by decide) ?_
      rw [px_uu, show vp_updL (fun j => if lo ≤ j ∧ j < i then v else r j) i v = (fun j => if lo ≤ j ∧ j < i + 1 then v else r j) from by
        funext j
        by_cases q : j = i
        · simp [vp_updL, q, hlo]
        · by_cases q2 : j < i
          · simp [vp_updL, q, q2, show j < i + 1 by omega]
          · simp [vp_updL, q, q2, show ¬ j < i + 1 by omega]]
      exact ih (i + 1) (by omega) (by omega)
  refine px_aload_n hC 0 rfl dJ7_fill_bad5a_0 ?_
  refine px_alen (t0 := 1) hC hf rfl dJ7_fill_bad5a_1 ?_
  refine px_iload_n hC 1 rfl dJ7_fill_bad5a_2 ?_
  refine px_iload_n hC 2 rfl dJ7_fill_bad5a_3 ?_
  refine px_callSv (st := []) (nn := 3) hC (c_range l E L f nn lo hi h1 h2 hn) gJ7_fill_bad5a_J7_rangeCheck_23922 rfl (by decide +kernel) (by decide) (Nat.le_of_ble_eq_true rfl) (by decide) rfl rfl dJ7_fill_bad5a_4 (fun f1 hf1 => ?_)
  subst hf1
  refine px_iload_n hC 1 rfl dJ7_fill_bad5a_7 ?_
  refine px_istore (lv' := [(0, .ref a), (1, .int (nI lo)), (2, .int (nI hi)), (3, .long v), (5, .int (nI lo))]) hC [1, 2, 3, 4, 0] dJ7_fill_bad5a_8 (by decide) rfl ?_
  have h0 := loop (hi - lo) lo (by omega) (by omega)
  rw [show (fun j => if lo ≤ j ∧ j < lo then v else r j) = r from by funext j; rw [if_neg (by omega)], px_us hf.2] at h0
  exact h0
