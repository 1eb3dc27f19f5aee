
set_option maxHeartbeats 4000000 in
theorem law_entry {p : Program} {l : Launch} {e : Env} {s : State} {m : MethodId} {below : List Frame} {meth : Method} {c : Code} {E : px_E} {A : Nat → Prop} {b Lx : Nat} {xs : Nat → Int32} {Q : State → Prop} {f : Nat → va_E} (hC : px_C p s m #[Value.ref b] meth c cL_law RL wsL_law 4 ret E A s.heap) (hX : va_X b Lx xs s s.heap) (hbl : b < s.heap.size) (hbA : ¬ A b) (hL : Lx ≤ 2048) (hend : ∀ (L : List Nat) (f : Nat → va_E) (lv : List (Nat × Value)), px p l e room_1 s m #[Value.ref b] below meth c 4 E A s.heap L f 376 8177 Q 239 lv [.int (nI 1)]) : px p l e room_1 s m #[Value.ref b] below meth c 4 E A s.heap [] f 0 0 Q 0 [(0, .ref b)] [] := by
  refine px_newO (ci := 2) (C := RX3) (T := TX3) (N := 7) (fs := [.null, .null, .null, .null, .null, .int (nI 0), .int (nI 0)]) hC rfl inlX3 tyX3 tyX3_ok (by decide +kernel) (by decide +kernel) (by decide +kernel) (by decide +kernel) (by first | exact Nat.le_of_ble_eq_true rfl | (dsimp only; omega)) (by first | exact Nat.le_of_ble_eq_true rfl | (dsimp only; omega)) dL_law_0 (fun rr L1 f1 h1 w1 a1 => ?_)
  refine px_dup hC rfl dL_law_3 ?_
  refine px_callI (st := [.ref rr]) (nn := 0) hC (c_i3 l E _ _ rr a1) gL_law_X3_init rfl (by decide +kernel) (by decide +kernel) (by decide +kernel) rfl (by decide) (by first | decide | (dsimp only; omega)) (Nat.le_of_ble_eq_true rfl) (by first | decide | (dsimp only; omega)) rfl rfl dL_law_4 (fun v2 L2 f2 q2 => ?_)
  obtain ⟨rfl, sy, nm, dn, el, lt, cs, np, od, wk, tp, bt, ot, ob, ad0, ra, x2, hx, all2⟩ := q2
  refine px_ev (pc2 := 7) (st2 := [.ref rr]) rfl rfl rfl ?_
  refine px_astore_n (lv' := [(0, .ref b), (1, .ref rr)]) hC [1, 0] dL_law_7 (by decide) rfl ?_
  refine px_newO (ci := 4) (C := RX5) (T := TX5) (N := 7) (fs := [.int (nI 0), .null, .null, .null, .int (nI 0), .null, .null]) hC rfl inlX5 tyX5 tyX5_ok (by decide +kernel) (by decide +kernel) (by decide +kernel) (by decide +kernel) (by first | exact Nat.le_of_ble_eq_true rfl | (dsimp only; omega)) (by first | exact Nat.le_of_ble_eq_true rfl | (dsimp only; omega)) dL_law_8 (fun mm L3 f3 h3 w3 a3 => ?_)
  refine px_dup hC rfl dL_law_11 ?_
  refine px_callI (st := [.ref mm]) (nn := 0) hC (c_i5 l E _ _ mm a3) gL_law_X5_init rfl (by decide +kernel) (by decide +kernel) (by decide +kernel) rfl (by decide) (by first | decide | (dsimp only; omega)) (Nat.le_of_ble_eq_true rfl) (by first | decide | (dsimp only; omega)) rfl rfl dL_law_12 (fun v4 L4 f4 q4 => ?_)
  obtain ⟨rfl, nb, ab, ud, mx, so, gd, pd, x4, hm, all4⟩ := q4
  refine px_ev (pc2 := 15) (st2 := [.ref mm]) rfl rfl rfl ?_
  have nmm : ¬ fX rr sy nm dn el lt cs np od wk tp bt ot ob ad0 ra mm := fun h => h3 (all2 mm h).1
  have hx4 := XS_gx (XS_gx hx (w3.toX mm) nmm) x4 nmm
  have hdis : ∀ c, fX rr sy nm dn el lt cs np od wk tp bt ot ob ad0 ra c → ¬ fMo mm nb ab ud mx so gd pd c := fun c hc hc2 => by
    have hcl := (all2 c hc).1
    rcases all4 c hc2 with z | z
    · exact h3 (z ▸ hcl)
    · exact z (w3 c hcl).1
  refine px_astore_n (lv' := [(0, .ref b), (1, .ref rr), (2, .ref mm)]) hC [1, 2, 0] dL_law_15 (by decide) rfl ?_
  refine px_iconst (v := nI 0) hC (by decide) dL_law_16 ?_
  refine px_istore_n (lv' := [(0, .ref b), (1, .ref rr), (2, .ref mm), (3, .int (nI 0))]) hC [1, 2, 3, 0] dL_law_17 (by decide) rfl ?_
  refine px_wide (n2 := 376) (k2 := 8177) (by first | omega | (dsimp only; omega)) (by first | omega | (dsimp only; omega)) ?_
  exact law_loop hC hX hbl hbA hL hdis (hend L4) 512 0 f4 1 _ _ 0 _ _ _ _ (by omega) (by decide) ⟨hx4, hm, fun i j _ _ => rfl, fun h => absurd h (by decide)⟩
