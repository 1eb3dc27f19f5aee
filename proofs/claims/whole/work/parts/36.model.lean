/-! ===== the reference's solve ===== -/
theorem i2l_S (v : Int32) : ∃ b m, b < 2 ∧ m < 2 ^ 62 ∧ (b = 1 → m ≠ 0) ∧ v.toInt64 = lS b m ∧ vS b m = v.toInt := by
  have h1 := v.toInt_lt
  have h2 := v.le_toInt
  have e0 : v.toInt64.toInt = v.toInt := Int32.toInt_toInt64 v
  by_cases q : v.toInt < 0
  · refine ⟨1, v.toInt.natAbs, by decide, by omega, fun _ => by omega, Int64.toInt_inj.mp ?_, by unfold vS; rw [if_pos rfl]; omega⟩
    rw [e0, lS_toInt (by decide) (by omega), if_pos rfl]; omega
  · refine ⟨0, v.toInt.natAbs, by decide, by omega, fun h => absurd h (by decide), Int64.toInt_inj.mp ?_, by unfold vS; rw [if_neg (by decide)]; omega⟩
    rw [e0, lS_toInt (by decide) (by omega), if_neg (by decide)]; omega
theorem ix_lt2 {n i j : Nat} (hi : i < n) (hj : j ≤ n) : (n + 1) * i + j < n * (n + 1) := by
  have h1 : (n + 1) * i + (n + 1) ≤ (n + 1) * n := by rw [← Nat.mul_succ]; exact Nat.mul_le_mul_left _ hi
  rw [Nat.mul_comm n]
  omega
theorem mA_le (w : Nat → Nat → Int32) (n a j : Nat) : (mA w n a j).natAbs ≤ 2 ^ 31 := by
  unfold mA
  have h1 := (w a j).toInt_lt
  have h2 := (w a j).le_toInt
  split <;> omega
section MM
variable {E : px_E} {L : List Nat} {f : Nat → va_E} {mm nb ab ud mx so : Nat} {gd pd : Nat → Nat} {n : Nat} {r : Nat → Int32} {td : Nat} {nu de : Nat → Int64}
theorem flX5_solve_9 : Cond.fieldLink RX5 9 "RowReductionModel" "size" "I" ∈ wsX5_solve := by decide +kernel
theorem kkX5_solve_X5 : ∀ w ∈ wsX50, w ∈ wsX5_solve := fun _ h => List.mem_cons_of_mem _ (List.mem_append_left _ (List.mem_append_right _ h))
theorem flX5_solve_35 : Cond.fieldLink RX5 35 "RowReductionModel" "told" "Z" ∈ wsX5_solve := by decide +kernel
theorem flX5_solve_28 : Cond.fieldLink RX5 28 "RowReductionModel" "matrix" "[LRowReductionModel$Great;" ∈ wsX5_solve := by decide +kernel
theorem flX5_solve_13 : Cond.fieldLink RX5 13 "RowReductionModel" "numbers" "[I" ∈ wsX5_solve := by decide +kernel
theorem c_mSolve (l : Launch) (hX : MS E L f mm nb ab ud mx so gd pd n r td nu de) : px_M l yX5_solve wsX5_solve (px_rm 5 125) E L f [.ref mm] (px_i L (fun z f' => ∃ td' nu' de', MS E L f' mm nb ab ud mx so gd pd n r td' nu' de' ∧ (∀ c, ¬ fMo mm nb ab ud mx so gd pd c → f' c = f c) ∧ sR n (mA (fun i j => r ((n + 1) * i + j)) n) z td' nu' de')) := by
  refine px_M.of (cc := cX5_solve) (maxL := 3) (ret := (some .int)) (lv := [(0, .ref mm)]) (by decide) rfl (Nat.le_of_ble_eq_true rfl) rfl ?_
  intro p e s m below meth c A hC hnm
  obtain ⟨Q, hQ⟩ : ∃ Q, Q = MQ below (px_Q E (px_i L (fun z f' => ∃ td' nu' de', MS E L f' mm nb ab ud mx so gd pd n r td' nu' de' ∧ (∀ c, ¬ fMo mm nb ab ud mx so gd pd c → f' c = f c) ∧ sR n (mA (fun i j => r ((n + 1) * i + j)) n) z td' nu' de')) A) [.ref mm].toArray s (px_rm 5 125).cells (px_rm 5 125).slots A := ⟨_, rfl⟩
  rw [← hQ]
  obtain ⟨h1n, hn, htd, pi, V, hW⟩ := hX
  have hW1 := hW.oM (nI n) (nI 0)
  have hf1 : ∀ c, c ≠ mm → va_up f mm (.inr (4, mF nb ab ud mx so (nI n) (nI 0))) c = f c := fun c h => va_up_ne _ _ h
  have hnw : n * (n + 1) ≤ 110 := Nat.mul_le_mul hn (by omega : n + 1 ≤ 11)
  -- the fractions
  have frac : ∀ (u i : Nat) (g : Nat → va_E) (qi : Nat → Nat) (W : Nat → Int) (nu' de' : Nat → Int64) (d : Int) (M : Nat → Nat → Int), i + u = n → mW E L g mm nb ab ud mx so gd pd (nI n) (nI 0) r nu' de' qi W → (∀ c, ¬ fMo mm nb ab ud mx so gd pd c → g c = f c) → brun n n 0 1 (mA (fun i j => r ((n + 1) * i + j)) n) = some (d, M) → d ≠ 0 → d.natAbs < 268435456 ^ 12 → (∀ a, a < n → W (qi ((n + 1) * a + a)) = d ∧ W (qi ((n + 1) * a + n)) = M a n ∧ (M a n).natAbs < 268435456 ^ 12) → (∀ j, j < i → fit (M j n) d ∧ (nu' j).toInt = fN (M j n) d ∧ (de' j).toInt = fM (M j n) d) → px p l e (px_rm 5 125) s m [.ref mm].toArray below meth c 3 E A s.heap L (g) 0 0 Q 61 [(0, .ref mm), (1, .int (nI (n + 1))), (2, .int (nI i))] [] := by
    intro u
    induction u with
    | zero =>
      intro i g qi W nu' de' d M hi hWg hfg hb d0 db hM hj
      have ei : i = n := by omega
      subst ei
      refine px_iload_n hC 2 rfl dX5_solve_61 ?_
      refine px_aload_n hC 0 rfl dX5_solve_62 ?_
      refine px_get (C := RX5) (T := TX5) (N := 7) hC hWg.1 rfl kkX5_solve_X5 0 (by decide) flX5_solve_9 rfl dX5_solve_63 ?_
      refine px_icmp_ge hC 110 dX5_solve_66 (by decide) (fun _ => ?_) (fun q9 => (q9 (nI_le (Nat.le_refl i) (by omega))).elim)
      refine px_aload_n hC 0 rfl dX5_solve_110 ?_
      refine px_iconst (v := nI 1) hC (by decide) dX5_solve_111 ?_
      refine px_put (C := RX5) (T := TX5) (N := 7) (fs' := mF nb ab ud mx so (nI i) (nI 1)) hC hWg.1 rfl kkX5_solve_X5 4 (by decide) tyX5 tyX5_ok nmX5 flX5_solve_35 rfl (by decide) (by decide) (Nat.le_of_ble_eq_true rfl) rfl dX5_solve_112 ?_
      refine px_iconst (v := nI 0) hC (by decide) dX5_solve_115 ?_
      subst hQ
      exact px_iret hC rfl (⟨_, rfl, rfl, 1, nu', de', ⟨h1n, hn, by decide, qi, W, hWg.oM _ _⟩, fun c hc => by rw [va_up_ne _ _ (fun h => hc (Or.inl h))]; exact hfg c hc, Or.inr ⟨d, M, hb, Or.inr ⟨fun j hj2 => (hj j hj2).1, rfl, rfl, fun j hj2 => (hj j hj2).2⟩⟩⟩) dX5_solve_116
    | succ u ih =>
      intro i g qi W nu' de' d M hi hWg hfg hb d0 db hM hj
      obtain ⟨hq, -, -, -, ⟨mr, hmx, hmr⟩, -, hU, -, hpi, hpj⟩ := id hWg
      have l1 := ix_lt hn (show i < n by omega) (Nat.le_refl n)
      have l2 := ix_lt hn (show i < n by omega) (show i ≤ n by omega)
      obtain ⟨m1, m2, m3⟩ := hM i (by omega)
      refine px_iload_n hC 2 rfl dX5_solve_61 ?_
      refine px_aload_n hC 0 rfl dX5_solve_62 ?_
      refine px_get (C := RX5) (T := TX5) (N := 7) hC hq rfl kkX5_solve_X5 0 (by decide) flX5_solve_9 rfl dX5_solve_63 ?_
      refine px_icmp_ge hC 110 dX5_solve_66 (by decide) (fun q9 => absurd q9 (nI_ge (by omega) (by omega))) (fun _ => ?_)
      refine px_aload_n hC 0 rfl dX5_solve_69 ?_
      refine px_aload_n hC 0 rfl dX5_solve_70 ?_
      refine px_get (C := RX5) (T := TX5) (N := 7) hC hq rfl kkX5_solve_X5 5 (by decide) flX5_solve_28 rfl dX5_solve_71 ?_
      refine px_iload_n hC 1 rfl dX5_solve_74 ?_
      refine px_iload_n hC 2 rfl dX5_solve_75 ?_
      refine px_imul hC dX5_solve_76 ?_
      refine px_aload_n hC 0 rfl dX5_solve_77 ?_
      refine px_get (C := RX5) (T := TX5) (N := 7) hC hq rfl kkX5_solve_X5 0 (by decide) flX5_solve_9 rfl dX5_solve_78 ?_
      refine px_iadd hC dX5_solve_81 ?_
      refine px_ei (y := nI ((n + 1) * i + n)) (by rw [pk_mul, nI_add]) ?_
      refine px_aald (t0 := 2) hC hmx rfl rfl l1 (by first | decide | assumption | omega) (hmr _ l1) dX5_solve_82 ?_
      refine px_aload_n hC 0 rfl dX5_solve_83 ?_
      refine px_get (C := RX5) (T := TX5) (N := 7) hC hq rfl kkX5_solve_X5 5 (by decide) flX5_solve_28 rfl dX5_solve_84 ?_
      refine px_iload_n hC 1 rfl dX5_solve_87 ?_
      refine px_iload_n hC 2 rfl dX5_solve_88 ?_
      refine px_imul hC dX5_solve_89 ?_
      refine px_iload_n hC 2 rfl dX5_solve_90 ?_
      refine px_iadd hC dX5_solve_91 ?_
      refine px_ei (y := nI ((n + 1) * i + i)) (by rw [pk_mul, nI_add]) ?_
      refine px_aald (t0 := 2) hC hmx rfl rfl l2 (by first | decide | assumption | omega) (hmr _ l2) dX5_solve_92 ?_
      refine px_iload_n hC 2 rfl dX5_solve_93 ?_
      refine px_callVi (C := RX5) (T := TX5) (N := 7) (st := []) (nn := 3) hC (c_mFrac l (qi ((n + 1) * i + n)) (qi ((n + 1) * i + i)) i hWg (hpi _ l1) (hpi _ l2) (by omega) (by rw [m1]; exact d0) (by rw [m2]; exact m3) (by rw [m1]; exact db)) hq rfl gX5_solve_X5_fraction rfl (by decide +kernel) (by decide) (Nat.le_of_ble_eq_true rfl) (by decide) rfl rfl dX5_solve_94 (fun z g1 hz => ?_)
      obtain ⟨W1, nu1, de1, hW2, hv1, hf2, hz⟩ := hz
      rw [m1, m2] at hz
      have hfg1 : ∀ c, ¬ fMo mm nb ab ud mx so gd pd c → g1 c = f c := fun c hc => by rw [hf2 c (fun h => hc (Or.inr (Or.inr (Or.inl h)))) (fun h => hc (Or.inr (Or.inr (Or.inr (Or.inl h))))) (fun h => hc (Or.inr (Or.inr (Or.inr (Or.inr (Or.inr (Or.inr h)))))))]; exact hfg c hc
      rcases hz with ⟨rfl, hfit, x, y, ex, ey, rfl, rfl⟩ | ⟨rfl, hfit, rfl, rfl⟩
      · refine px_if_ne hC 104 dX5_solve_97 (by decide) (fun _ => ?_) (fun q9 => absurd q9 (by decide))
        refine px_iinc (v := nI (i + 1)) (lv' := [(0, .ref mm), (1, .int (nI (n + 1))), (2, .int (nI (i + 1)))]) hC 2 [1, 2, 0] dX5_solve_104 rfl (nI_1 i) (by decide) rfl ?_
        refine px_goto hC 61 dX5_solve_107 (by decide) ?_
        refine ih (i + 1) g1 qi W1 _ _ d M (by omega) hW2 hfg1 hb d0 db (fun a ha => ?_) (fun j hj2 => ?_)
        · rw [hv1 _ (hpi _ (ix_lt hn ha (show a ≤ n by omega))), hv1 _ (hpi _ (ix_lt hn ha (Nat.le_refl n)))]; exact hM a ha
        · by_cases q : j = i
          · subst q; rw [pk_uLs, pk_uLs]; exact ⟨hfit, ex, ey⟩
          · rw [pk_uLn q, pk_uLn q]; exact hj j (by omega)
      · refine px_if_ne hC 104 dX5_solve_97 (by decide) (fun q9 => (q9 (by decide)).elim) (fun _ => ?_)
        refine px_iconst (v := nI 1) hC (by decide) dX5_solve_100 ?_
        refine px_iload_n hC 2 rfl dX5_solve_101 ?_
        refine px_iadd hC dX5_solve_102 ?_
        refine px_ei (y := nI (1 + i)) (nI_add _ _) ?_
        subst hQ
        exact px_iret hC rfl (⟨_, rfl, rfl, 0, nu1, de1, ⟨h1n, hn, by decide, qi, W1, hW2⟩, hfg1, Or.inr ⟨d, M, hb, Or.inl ⟨i, by omega, fun j hj2 => (hj j hj2).1, hfit, rfl, rfl⟩⟩⟩) dX5_solve_103
  have load : ∀ (u k : Nat) (g : Nat → va_E) (W : Nat → Int), k + u = n * (n + 1) → mW E L g mm nb ab ud mx so gd pd (nI n) (nI 0) r nu de pi W → (∀ c, ¬ fMo mm nb ab ud mx so gd pd c → g c = f c) → (∀ t, t < k → W (pi t) = (r t).toInt) → px p l e (px_rm 5 125) s m [.ref mm].toArray below meth c 3 E A s.heap L (g) 0 0 Q 14 [(0, .ref mm), (1, .int (nI (n + 1))), (2, .int (nI k))] [] := by
    intro u
    induction u with
    | zero =>
      intro k g W hk hWg hfg hv
      have ek : k = n * (n + 1) := by omega
      refine px_iload_n hC 2 rfl dX5_solve_14 ?_
      refine px_aload_n hC 0 rfl dX5_solve_15 ?_
      refine px_get (C := RX5) (T := TX5) (N := 7) hC hWg.1 rfl kkX5_solve_X5 0 (by decide) flX5_solve_9 rfl dX5_solve_16 ?_
      refine px_iload_n hC 1 rfl dX5_solve_19 ?_
      refine px_imul hC dX5_solve_20 ?_
      refine px_ei (y := nI k) (by rw [pk_mul, ek]) ?_
      refine px_icmp_ge hC 46 dX5_solve_21 (by decide) (fun _ => ?_) (fun q9 => (q9 (nI_le (Nat.le_refl k) (by omega))).elim)
      refine px_aload_n hC 0 rfl dX5_solve_46 ?_
      refine px_aload_n hC 0 rfl dX5_solve_47 ?_
      refine px_get (C := RX5) (T := TX5) (N := 7) hC hWg.1 rfl kkX5_solve_X5 0 (by decide) flX5_solve_9 rfl dX5_solve_48 ?_
      refine px_callVi (C := RX5) (T := TX5) (N := 7) (st := []) (nn := 1) hC (c_mRed l n (mA (fun i j => r ((n + 1) * i + j)) n) hWg h1n hn (fun a j ha hj => by rw [hv _ (by rw [ek]; exact ix_lt2 ha hj)]; unfold mA; rw [if_pos ⟨ha, hj⟩]) (mA_le _ n)) hWg.1 rfl gX5_solve_X5_isReduced rfl (by decide +kernel) (by decide) (Nat.le_of_ble_eq_true rfl) (by decide) rfl rfl dX5_solve_51 (fun z g1 hz => ?_)
      obtain ⟨qi, W1, hW2, hf2, hz⟩ := hz
      have hfg1 : ∀ c, ¬ fMo mm nb ab ud mx so gd pd c → g1 c = f c := fun c hc => by rw [hf2 c (fun h => hc (Or.inr (Or.inr (Or.inr (Or.inr (Or.inl h)))))) (fun h => hc (Or.inr (Or.inr (Or.inr (Or.inr (Or.inr (Or.inr h)))))))]; exact hfg c hc
      rcases hz with ⟨hb, rfl⟩ | ⟨d, M, hb, rfl, d0, db, hM⟩
      · refine px_if_ne hC 59 dX5_solve_54 (by decide) (fun q9 => (q9 (by decide)).elim) (fun _ => ?_)
        refine px_iconst (v := (-1)) hC (by decide) dX5_solve_57 ?_
        subst hQ
        exact px_iret hC rfl (⟨_, rfl, rfl, 0, nu, de, ⟨h1n, hn, by decide, qi, W1, hW2⟩, hfg1, Or.inl ⟨hb, rfl, rfl⟩⟩) dX5_solve_58
      · refine px_if_ne hC 59 dX5_solve_54 (by decide) (fun _ => ?_) (fun q9 => absurd q9 (by decide))
        refine px_iconst (v := nI 0) hC (by decide) dX5_solve_59 ?_
        refine px_istore_n (lv' := [(0, .ref mm), (1, .int (nI (n + 1))), (2, .int (nI 0))]) hC [1, 2, 0] dX5_solve_60 (by decide) rfl ?_
        exact frac n 0 g1 qi W1 nu de d M (by omega) hW2 hfg1 hb d0 db hM (fun j hj => absurd hj (by omega))
    | succ u ih =>
      intro k g W hk hWg hfg hv
      have hk1 : k < 110 := by omega
      obtain ⟨hq, hnb, -, -, ⟨mr, hmx, hmr⟩, -, hU, -, hpi, hpj⟩ := id hWg
      have pk := hpi k hk1
      obtain ⟨b, m0, hb, hm, hbm, e1, e2⟩ := i2l_S (r k)
      obtain ⟨pf1, at1⟩ := hU.at (show pi k < 118 by omega)
      refine px_iload_n hC 2 rfl dX5_solve_14 ?_
      refine px_aload_n hC 0 rfl dX5_solve_15 ?_
      refine px_get (C := RX5) (T := TX5) (N := 7) hC hq rfl kkX5_solve_X5 0 (by decide) flX5_solve_9 rfl dX5_solve_16 ?_
      refine px_iload_n hC 1 rfl dX5_solve_19 ?_
      refine px_imul hC dX5_solve_20 ?_
      refine px_ei (y := nI (n * (n + 1))) (by rw [pk_mul]) ?_
      refine px_icmp_ge hC 46 dX5_solve_21 (by decide) (fun q9 => absurd q9 (nI_ge (by omega) (by omega))) (fun _ => ?_)
      refine px_aload_n hC 0 rfl dX5_solve_24 ?_
      refine px_get (C := RX5) (T := TX5) (N := 7) hC hq rfl kkX5_solve_X5 5 (by decide) flX5_solve_28 rfl dX5_solve_25 ?_
      refine px_iload_n hC 2 rfl dX5_solve_28 ?_
      refine px_aald (t0 := 2) hC hmx rfl rfl hk1 (by first | decide | assumption | omega) (hmr k hk1) dX5_solve_29 ?_
      refine px_aload_n hC 0 rfl dX5_solve_30 ?_
      refine px_get (C := RX5) (T := TX5) (N := 7) hC hq rfl kkX5_solve_X5 1 (by decide) flX5_solve_13 rfl dX5_solve_31 ?_
      refine px_iload_n hC 2 rfl dX5_solve_34 ?_
      refine px_iald hC hnb hk1 (by first | decide | assumption | omega) dX5_solve_35 ?_
      refine px_i2l hC dX5_solve_36 ?_
      refine px_el (y := lS b m0) (e1) ?_
      refine px_callVv (C := RX4) (T := TX4) (N := 4) (st := []) (nn := 1) hC (c_uSet l (pi k) b m0 hU (by omega) hb hm hbm) at1 rfl gX5_solve_X4_set rfl (by decide +kernel) (by decide) (Nat.le_of_ble_eq_true rfl) (by decide) rfl rfl dX5_solve_37 (fun g1 h1 => ?_)
      obtain ⟨gu1, gk1⟩ := h1
      rw [e2] at gu1
      obtain ⟨W1, e3, x1, k1⟩ := up_ex W (pi k) (r k).toInt
      rw [← e3] at gu1
      refine px_iinc (v := nI (k + 1)) (lv' := [(0, .ref mm), (1, .int (nI (n + 1))), (2, .int (nI (k + 1)))]) hC 2 [1, 2, 0] dX5_solve_40 rfl (nI_1 k) (by decide) rfl ?_
      refine px_goto hC 14 dX5_solve_43 (by decide) ?_
      refine ih (k + 1) g1 W1 (by omega) (hWg.K gu1 gk1) (fun c hc => by rw [gk1 c (fun h => hc (Or.inr (Or.inr (Or.inr (Or.inr (Or.inr (Or.inr h)))))))]; exact hfg c hc) (fun t ht => ?_)
      by_cases q : t = k
      · subst q; exact x1
      · rw [k1 _ (fun h => q (hpj t k (by omega) hk1 h))]; exact hv t (by omega)
  refine px_aload_n hC 0 rfl dX5_solve_0 ?_
  refine px_iconst (v := nI 0) hC (by decide) dX5_solve_1 ?_
  refine px_put (C := RX5) (T := TX5) (N := 7) (fs' := mF nb ab ud mx so (nI n) (nI 0)) hC hW.1 rfl kkX5_solve_X5 4 (by decide) tyX5 tyX5_ok nmX5 flX5_solve_35 rfl (by decide) (by decide) (Nat.le_of_ble_eq_true rfl) rfl dX5_solve_2 ?_
  refine px_aload_n hC 0 rfl dX5_solve_5 ?_
  refine px_get (C := RX5) (T := TX5) (N := 7) hC hW1.1 rfl kkX5_solve_X5 0 (by decide) flX5_solve_9 rfl dX5_solve_6 ?_
  refine px_iconst (v := nI 1) hC (by decide) dX5_solve_9 ?_
  refine px_iadd hC dX5_solve_10 ?_
  refine px_ei (y := nI (n + 1)) (nI_1 n) ?_
  refine px_istore_n (lv' := [(0, .ref mm), (1, .int (nI (n + 1)))]) hC [1, 0] dX5_solve_11 (by decide) rfl ?_
  refine px_iconst (v := nI 0) hC (by decide) dX5_solve_12 ?_
  refine px_istore_n (lv' := [(0, .ref mm), (1, .int (nI (n + 1))), (2, .int (nI 0))]) hC [1, 2, 0] dX5_solve_13 (by decide) rfl ?_
  exact load (n * (n + 1)) 0 _ V (by omega) hW1 (fun c hc => hf1 c (fun h => hc (Or.inl h))) (fun t ht => absurd ht (by omega))
end MM
