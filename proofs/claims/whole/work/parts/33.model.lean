/-! ===== the reference's step ===== -/
theorem up_ex {α : Type} (V : Nat → α) (u : Nat) (v : α) : ∃ V1, V1 = va_up V u v ∧ V1 u = v ∧ ∀ t, t ≠ u → V1 t = V t := ⟨_, rfl, va_up_self _ _ _, fun _ h => va_up_ne _ _ h⟩
theorem bd_mul {a b : Int} (ha : a.natAbs < 268435456 ^ 12) (hb : b.natAbs < 268435456 ^ 12) : (a * b).natAbs < 268435456 ^ 24 := by
  rw [Int.natAbs_mul]
  have h1 : a.natAbs * b.natAbs ≤ 268435456 ^ 12 * b.natAbs := Nat.mul_le_mul_right _ (Nat.le_of_lt ha)
  have h2 : 268435456 ^ 12 * b.natAbs < 268435456 ^ 12 * 268435456 ^ 12 := Nat.mul_lt_mul_of_pos_left hb (Nat.pow_pos (by decide))
  have h3 : (268435456 : Nat) ^ 12 * 268435456 ^ 12 = 268435456 ^ 24 := by rw [← Nat.pow_add]
  exact Nat.lt_of_lt_of_eq (Nat.lt_of_le_of_lt h1 h2) h3
theorem bd_up {a i j : Nat} (h : a < 268435456 ^ i) (hij : i ≤ j) : a < 268435456 ^ j := Nat.lt_of_lt_of_le h (Nat.pow_le_pow_right (by decide) hij)
section MM
variable {E : px_E} {L : List Nat} {f : Nat → va_E} {mm nb ab ud mx so : Nat} {gd pd : Nat → Nat} {sz td : Int32} {r : Nat → Int32} {nu de : Nat → Int64} {pi : Nat → Nat} {V : Nat → Int}
theorem flX5_eliminate_32 : Cond.fieldLink RX5 32 "RowReductionModel" "some" "[LRowReductionModel$Great;" ∈ wsX5_eliminate := by decide +kernel
theorem kkX5_eliminate_X5 : ∀ w ∈ wsX50, w ∈ wsX5_eliminate := fun _ h => List.mem_cons_of_mem _ (List.mem_append_left _ (List.mem_append_right _ h))
theorem flX5_eliminate_28 : Cond.fieldLink RX5 28 "RowReductionModel" "matrix" "[LRowReductionModel$Great;" ∈ wsX5_eliminate := by decide +kernel
theorem c_mElim (l : Launch) (i k n : Nat) (d : Int) (M : Nat → Nat → Int) (hW : mW E L f mm nb ab ud mx so gd pd sz td r nu de pi V) (hn : n ≤ 10) (hi : i < n) (hk : k < n) (hik : i ≠ k) (hM : ∀ a j, a < n → j ≤ n → V (pi ((n + 1) * a + j)) = M a j) (hb : ∀ a j, a < n → j ≤ n → (M a j).natAbs < 268435456 ^ 12) (hd : V 110 = d) (hd0 : d ≠ 0) (hdb : d.natAbs < 268435456 ^ 12) : px_M l yX5_eliminate wsX5_eliminate (px_rm 3 72) E L f [.ref mm, .int (nI i), .int (nI k), .int (nI (n + 1)), .ref (gd 110)] (px_v L (fun f' => ∃ V', gU E L f' gd pd V' ∧ gK gd pd f f' ∧ V' 110 = d ∧ ∀ a j, a < n → j ≤ n → V' (pi ((n + 1) * a + j)) = if a = i then qz (M k k * M i j - M i k * M k j) d else M a j)) := by
  refine px_M.of (cc := cX5_eliminate) (maxL := 7) (ret := none) (lv := [(0, .ref mm), (1, .int (nI i)), (2, .int (nI k)), (3, .int (nI (n + 1))), (4, .ref (gd 110))]) (by decide) rfl (Nat.le_of_ble_eq_true rfl) rfl ?_
  intro p e s m below meth c A hC hnm
  obtain ⟨Q, hQ⟩ : ∃ Q, Q = MQ below (px_Q E (px_v L (fun f' => ∃ V', gU E L f' gd pd V' ∧ gK gd pd f f' ∧ V' 110 = d ∧ ∀ a j, a < n → j ≤ n → V' (pi ((n + 1) * a + j)) = if a = i then qz (M k k * M i j - M i k * M k j) d else M a j)) A) [.ref mm, .int (nI i), .int (nI k), .int (nI (n + 1)), .ref (gd 110)].toArray s (px_rm 3 72).cells (px_rm 3 72).slots A := ⟨_, rfl⟩
  rw [← hQ]
  obtain ⟨hq, -, -, -, ⟨mr, hmx, hmr⟩, ⟨sr, hso, hsr⟩, hU, -, hpi, hpj⟩ := id hW
  have hmx0 : mr = mr := rfl
  have s1 : sr 1 = some (gd 111) := hsr 1 (by decide)
  have s2 : sr 2 = some (gd 112) := hsr 2 (by decide)
  have s3 : sr 3 = some (gd 113) := hsr 3 (by decide)
  have s4 : sr 4 = some (gd 114) := hsr 4 (by decide)
  have s5 : sr 5 = some (gd 115) := hsr 5 (by decide)
  have ka : ∀ {g : Nat → va_E} {b : Nat} {x : va_E}, px_at L f b x → (b = mm ∨ b = mx ∨ b = so) → gK gd pd f g → px_at L g b x := fun {g b x} h hb hK => h.fr (hK _ (fun q => by
    have := hW.ga q
    rcases hb with rfl | rfl | rfl
    · exact this.1 rfl
    · exact this.2.2.2.2.1 rfl
    · exact this.2.2.2.2.2 rfl))
  have kq : ∀ {g : Nat → va_E}, gK gd pd f g → px_at L g mm (.inr (4, mF nb ab ud mx so sz td)) := fun hK => ka hq (Or.inl rfl) hK
  have kx : ∀ {g : Nat → va_E}, gK gd pd f g → px_at L g mx (aG E 110 mr) := fun hK => ka hmx (Or.inr (Or.inl rfl)) hK
  have ks : ∀ {g : Nat → va_E}, gK gd pd f g → px_at L g so (aG E 8 sr) := fun hK => ka hso (Or.inr (Or.inr rfl)) hK
  have lt : ∀ a j, a < n → j ≤ n → (n + 1) * a + j < 110 := fun a j ha hj => ix_lt hn ha hj
  have pl : ∀ a j, a < n → j ≤ n → pi ((n + 1) * a + j) < 110 := fun a j ha hj => hpi _ (lt a j ha hj)
  have pe : ∀ a j a' j', a < n → j ≤ n → a' < n → j' ≤ n → pi ((n + 1) * a + j) = pi ((n + 1) * a' + j') → a = a' ∧ j = j' := fun a j a' j' h1 h2 h3 h4 h => ix_inj h2 h4 (hpj _ _ (lt _ _ h1 h2) (lt _ _ h3 h4) h)
  have loop : ∀ (u j : Nat) (g : Nat → va_E) (W : Nat → Int), j + u = n + 1 → gU E L g gd pd W → gK gd pd f g → W 110 = d → W 111 = M i k → (∀ a c, a < n → c ≤ n → W (pi ((n + 1) * a + c)) = if a = i ∧ c < j then qz (M k k * M i c - M i k * M k c) d else M a c) → px p l e (px_rm 3 72) s m [.ref mm, .int (nI i), .int (nI k), .int (nI (n + 1)), .ref (gd 110)].toArray below meth c 7 E A s.heap L (g) 0 0 Q 26 [(0, .ref mm), (1, .int (nI i)), (2, .int (nI k)), (3, .int (nI (n + 1))), (4, .ref (gd 110)), (5, .ref (gd 111)), (6, .int (nI j))] [] := by
    intro u
    induction u with
    | zero =>
      intro j g W hj gu gk w0 w1 wM
      have ej : j = n + 1 := by omega
      subst ej
      refine px_iload hC 6 rfl dX5_eliminate_26 ?_
      refine px_iload_n hC 3 rfl dX5_eliminate_28 ?_
      refine px_icmp_ge hC 148 dX5_eliminate_29 (by decide) (fun _ => ?_) (fun q9 => (q9 (nI_le (Nat.le_refl _) (by omega))).elim)
      subst hQ
      exact px_vret hC rfl (⟨rfl, rfl, W, gu, gk, w0, fun a c ha hc => by rw [wM a c ha hc]; by_cases q : a = i; (rw [if_pos q, if_pos ⟨q, by omega⟩]); (rw [if_neg q, if_neg (fun h => q h.1)])⟩) dX5_eliminate_148
    | succ u ih =>
      intro j g W hj gu gk w0 w1 wM
      have hjn : j ≤ n := by omega
      have m1 : W (pi ((n + 1) * k + k)) = M k k := by rw [wM k k hk (by omega), if_neg (fun h => hik h.1.symm)]
      have m2 : W (pi ((n + 1) * i + j)) = M i j := by rw [wM i j hi hjn, if_neg (fun h => by omega)]
      have m3 : W (pi ((n + 1) * k + j)) = M k j := by rw [wM k j hk hjn, if_neg (fun h => hik h.1.symm)]
      have p1 := pl k k hk (by omega)
      have p2 := pl i j hi hjn
      have p3 := pl k j hk hjn
      have b1 := hb k k hk (by omega)
      have b2 := hb i j hi hjn
      have b3 := hb k j hk hjn
      have b4 := hb i k hi (by omega)
      refine px_iload hC 6 rfl dX5_eliminate_26 ?_
      refine px_iload_n hC 3 rfl dX5_eliminate_28 ?_
      refine px_icmp_ge hC 148 dX5_eliminate_29 (by decide) (fun q9 => absurd q9 (nI_ge (by omega) (by omega))) (fun _ => ?_)
      refine px_aload_n hC 0 rfl dX5_eliminate_32 ?_
      refine px_get (C := RX5) (T := TX5) (N := 7) hC (kq gk) rfl kkX5_eliminate_X5 6 (by decide) flX5_eliminate_32 rfl dX5_eliminate_33 ?_
      refine px_iconst (v := nI 2) hC (by decide) dX5_eliminate_36 ?_
      refine px_aald (t0 := 2) hC (ks gk) rfl rfl (by decide) (by first | decide | assumption | omega) s2 dX5_eliminate_37 ?_
      refine px_aload_n hC 0 rfl dX5_eliminate_38 ?_
      refine px_get (C := RX5) (T := TX5) (N := 7) hC (kq gk) rfl kkX5_eliminate_X5 5 (by decide) flX5_eliminate_28 rfl dX5_eliminate_39 ?_
      refine px_iload_n hC 3 rfl dX5_eliminate_42 ?_
      refine px_iload_n hC 2 rfl dX5_eliminate_43 ?_
      refine px_imul hC dX5_eliminate_44 ?_
      refine px_iload_n hC 2 rfl dX5_eliminate_45 ?_
      refine px_iadd hC dX5_eliminate_46 ?_
      refine px_ei (y := nI ((n + 1) * k + k)) (by rw [pk_mul, nI_add]) ?_
      refine px_aald (t0 := 2) hC (kx gk) rfl rfl (lt k k hk (by omega)) (by first | decide | assumption | omega) (hmr _ (lt k k hk (by omega))) dX5_eliminate_47 ?_
      refine px_aload_n hC 0 rfl dX5_eliminate_48 ?_
      refine px_get (C := RX5) (T := TX5) (N := 7) hC (kq gk) rfl kkX5_eliminate_X5 5 (by decide) flX5_eliminate_28 rfl dX5_eliminate_49 ?_
      refine px_iload_n hC 3 rfl dX5_eliminate_52 ?_
      refine px_iload_n hC 1 rfl dX5_eliminate_53 ?_
      refine px_imul hC dX5_eliminate_54 ?_
      refine px_iload hC 6 rfl dX5_eliminate_55 ?_
      refine px_iadd hC dX5_eliminate_57 ?_
      refine px_ei (y := nI ((n + 1) * i + j)) (by rw [pk_mul, nI_add]) ?_
      refine px_aald (t0 := 2) hC (kx gk) rfl rfl (lt i j hi hjn) (by first | decide | assumption | omega) (hmr _ (lt i j hi hjn)) dX5_eliminate_58 ?_
      obtain ⟨pf1, at1⟩ := gu.at (show 112 < 118 by decide)
      refine px_callVv (C := RX4) (T := TX4) (N := 4) (st := []) (nn := 2) hC (c_uProd l 112 (pi ((n + 1) * k + k)) (pi ((n + 1) * i + j)) gu (by decide) (by omega) (by omega) (by omega) (by omega) (by rw [m1]; exact bd_up b1 (by decide)) (by rw [m2]; exact bd_up b2 (by decide))) at1 rfl gX5_eliminate_X4_product rfl (by decide +kernel) (by decide) (Nat.le_of_ble_eq_true rfl) (by decide) rfl rfl dX5_eliminate_59 (fun g1 h1 => ?_)
      obtain ⟨gu1, gk1⟩ := h1
      have gk1 := gk.tr gk1
      rw [m1, m2] at gu1
      obtain ⟨W1, e1, x1, k1⟩ := up_ex W 112 (M k k * M i j)
      rw [← e1] at gu1
      refine px_aload_n hC 0 rfl dX5_eliminate_62 ?_
      refine px_get (C := RX5) (T := TX5) (N := 7) hC (kq gk1) rfl kkX5_eliminate_X5 6 (by decide) flX5_eliminate_32 rfl dX5_eliminate_63 ?_
      refine px_iconst (v := nI 3) hC (by decide) dX5_eliminate_66 ?_
      refine px_aald (t0 := 2) hC (ks gk1) rfl rfl (by decide) (by first | decide | assumption | omega) s3 dX5_eliminate_67 ?_
      refine px_aload hC 5 rfl dX5_eliminate_68 ?_
      refine px_aload_n hC 0 rfl dX5_eliminate_70 ?_
      refine px_get (C := RX5) (T := TX5) (N := 7) hC (kq gk1) rfl kkX5_eliminate_X5 5 (by decide) flX5_eliminate_28 rfl dX5_eliminate_71 ?_
      refine px_iload_n hC 3 rfl dX5_eliminate_74 ?_
      refine px_iload_n hC 2 rfl dX5_eliminate_75 ?_
      refine px_imul hC dX5_eliminate_76 ?_
      refine px_iload hC 6 rfl dX5_eliminate_77 ?_
      refine px_iadd hC dX5_eliminate_79 ?_
      refine px_ei (y := nI ((n + 1) * k + j)) (by rw [pk_mul, nI_add]) ?_
      refine px_aald (t0 := 2) hC (kx gk1) rfl rfl (lt k j hk hjn) (by first | decide | assumption | omega) (hmr _ (lt k j hk hjn)) dX5_eliminate_80 ?_
      obtain ⟨pf2, at2⟩ := gu1.at (show 113 < 118 by decide)
      have y1 : W1 111 = M i k := by rw [k1 _ (by decide)]; exact w1
      have y2 : W1 (pi ((n + 1) * k + j)) = M k j := by rw [k1 _ (by omega)]; exact m3
      refine px_callVv (C := RX4) (T := TX4) (N := 4) (st := []) (nn := 2) hC (c_uProd l 113 111 (pi ((n + 1) * k + j)) gu1 (by decide) (by decide) (by omega) (by decide) (by omega) (by rw [y1]; exact bd_up b4 (by decide)) (by rw [y2]; exact bd_up b3 (by decide))) at2 rfl gX5_eliminate_X4_product rfl (by decide +kernel) (by decide) (Nat.le_of_ble_eq_true rfl) (by decide) rfl rfl dX5_eliminate_81 (fun g2 h2 => ?_)
      obtain ⟨gu2, gk2⟩ := h2
      have gk2 := gk1.tr gk2
      rw [y1, y2] at gu2
      obtain ⟨W2, e2, x2, k2⟩ := up_ex W1 113 (M i k * M k j)
      rw [← e2] at gu2
      refine px_aload_n hC 0 rfl dX5_eliminate_84 ?_
      refine px_get (C := RX5) (T := TX5) (N := 7) hC (kq gk2) rfl kkX5_eliminate_X5 6 (by decide) flX5_eliminate_32 rfl dX5_eliminate_85 ?_
      refine px_iconst (v := nI 2) hC (by decide) dX5_eliminate_88 ?_
      refine px_aald (t0 := 2) hC (ks gk2) rfl rfl (by decide) (by first | decide | assumption | omega) s2 dX5_eliminate_89 ?_
      refine px_aload_n hC 0 rfl dX5_eliminate_90 ?_
      refine px_get (C := RX5) (T := TX5) (N := 7) hC (kq gk2) rfl kkX5_eliminate_X5 6 (by decide) flX5_eliminate_32 rfl dX5_eliminate_91 ?_
      refine px_iconst (v := nI 3) hC (by decide) dX5_eliminate_94 ?_
      refine px_aald (t0 := 2) hC (ks gk2) rfl rfl (by decide) (by first | decide | assumption | omega) s3 dX5_eliminate_95 ?_
      obtain ⟨pf3, at3⟩ := gu2.at (show 112 < 118 by decide)
      have y3 : W2 112 = M k k * M i j := by rw [k2 _ (by decide)]; exact x1
      refine px_callVv (C := RX4) (T := TX4) (N := 4) (st := []) (nn := 1) hC (c_uTake l 112 113 gu2 (by decide) (by decide) (by decide) (by rw [y3]; exact bd_up (bd_mul b1 b2) (by decide)) (by rw [x2]; exact bd_up (bd_mul b4 b3) (by decide))) at3 rfl gX5_eliminate_X4_take rfl (by decide +kernel) (by decide) (Nat.le_of_ble_eq_true rfl) (by decide) rfl rfl dX5_eliminate_96 (fun g3 h3 => ?_)
      obtain ⟨gu3, gk3⟩ := h3
      have gk3 := gk2.tr gk3
      rw [y3, x2] at gu3
      obtain ⟨W3, e3, x3, k3⟩ := up_ex W2 112 (M k k * M i j - M i k * M k j)
      rw [← e3] at gu3
      refine px_aload_n hC 0 rfl dX5_eliminate_99 ?_
      refine px_get (C := RX5) (T := TX5) (N := 7) hC (kq gk3) rfl kkX5_eliminate_X5 6 (by decide) flX5_eliminate_32 rfl dX5_eliminate_100 ?_
      refine px_iconst (v := nI 4) hC (by decide) dX5_eliminate_103 ?_
      refine px_aald (t0 := 2) hC (ks gk3) rfl rfl (by decide) (by first | decide | assumption | omega) s4 dX5_eliminate_104 ?_
      refine px_aload_n hC 0 rfl dX5_eliminate_105 ?_
      refine px_get (C := RX5) (T := TX5) (N := 7) hC (kq gk3) rfl kkX5_eliminate_X5 6 (by decide) flX5_eliminate_32 rfl dX5_eliminate_106 ?_
      refine px_iconst (v := nI 2) hC (by decide) dX5_eliminate_109 ?_
      refine px_aald (t0 := 2) hC (ks gk3) rfl rfl (by decide) (by first | decide | assumption | omega) s2 dX5_eliminate_110 ?_
      refine px_aload hC 4 rfl dX5_eliminate_111 ?_
      refine px_aload_n hC 0 rfl dX5_eliminate_113 ?_
      refine px_get (C := RX5) (T := TX5) (N := 7) hC (kq gk3) rfl kkX5_eliminate_X5 6 (by decide) flX5_eliminate_32 rfl dX5_eliminate_114 ?_
      refine px_iconst (v := nI 5) hC (by decide) dX5_eliminate_117 ?_
      refine px_aald (t0 := 2) hC (ks gk3) rfl rfl (by decide) (by first | decide | assumption | omega) s5 dX5_eliminate_118 ?_
      obtain ⟨pf4, at4⟩ := gu3.at (show 114 < 118 by decide)
      have y4 : W3 110 = d := by rw [k3 _ (by decide), k2 _ (by decide), k1 _ (by decide)]; exact w0
      refine px_callVv (C := RX4) (T := TX4) (N := 4) (st := []) (nn := 3) hC (c_uQuot l 114 112 110 115 gu3 (by decide) (by decide) (by decide) (by decide) (by decide) (by decide) (by decide) (by decide) (by decide) (by rw [y4]; exact bd_up hdb (by decide)) (by rw [y4]; exact hd0)) at4 rfl gX5_eliminate_X4_quotient rfl (by decide +kernel) (by decide) (Nat.le_of_ble_eq_true rfl) (by decide) rfl rfl dX5_eliminate_119 (fun g4 h4 => ?_)
      obtain ⟨gu4, gk4⟩ := h4
      have gk4 := gk3.tr gk4
      rw [y4, x3] at gu4
      obtain ⟨W4, e4, x4, k4⟩ := up_ex W3 114 (qz (M k k * M i j - M i k * M k j) d)
      rw [← e4] at gu4
      obtain ⟨W5, e5, x5, k5⟩ := up_ex W4 115 (((M k k * M i j - M i k * M k j).natAbs % d.natAbs : Nat) : Int)
      rw [← e5] at gu4
      have y5 : W5 114 = qz (M k k * M i j - M i k * M k j) d := by rw [k5 _ (by decide)]; exact x4
      refine px_aload_n hC 0 rfl dX5_eliminate_122 ?_
      refine px_get (C := RX5) (T := TX5) (N := 7) hC (kq gk4) rfl kkX5_eliminate_X5 5 (by decide) flX5_eliminate_28 rfl dX5_eliminate_123 ?_
      refine px_iload_n hC 3 rfl dX5_eliminate_126 ?_
      refine px_iload_n hC 1 rfl dX5_eliminate_127 ?_
      refine px_imul hC dX5_eliminate_128 ?_
      refine px_iload hC 6 rfl dX5_eliminate_129 ?_
      refine px_iadd hC dX5_eliminate_131 ?_
      refine px_ei (y := nI ((n + 1) * i + j)) (by rw [pk_mul, nI_add]) ?_
      refine px_aald (t0 := 2) hC (kx gk4) rfl rfl (lt i j hi hjn) (by first | decide | assumption | omega) (hmr _ (lt i j hi hjn)) dX5_eliminate_132 ?_
      refine px_aload_n hC 0 rfl dX5_eliminate_133 ?_
      refine px_get (C := RX5) (T := TX5) (N := 7) hC (kq gk4) rfl kkX5_eliminate_X5 6 (by decide) flX5_eliminate_32 rfl dX5_eliminate_134 ?_
      refine px_iconst (v := nI 4) hC (by decide) dX5_eliminate_137 ?_
      refine px_aald (t0 := 2) hC (ks gk4) rfl rfl (by decide) (by first | decide | assumption | omega) s4 dX5_eliminate_138 ?_
      obtain ⟨pf5, at5⟩ := gu4.at (show pi ((n + 1) * i + j) < 118 by omega)
      refine px_callVv (C := RX4) (T := TX4) (N := 4) (st := []) (nn := 1) hC (c_uSet2 l (pi ((n + 1) * i + j)) 114 gu4 (by omega) (by decide) (by omega)) at5 rfl gX5_eliminate_X4_set_ rfl (by decide +kernel) (by decide) (Nat.le_of_ble_eq_true rfl) (by decide) rfl rfl dX5_eliminate_139 (fun g5 h5 => ?_)
      obtain ⟨gu5, gk5⟩ := h5
      have gk5 := gk4.tr gk5
      rw [y5] at gu5
      obtain ⟨W6, e6, x6, k6⟩ := up_ex W5 (pi ((n + 1) * i + j)) (qz (M k k * M i j - M i k * M k j) d)
      rw [← e6] at gu5
      refine px_iinc (v := nI (j + 1)) (lv' := [(0, .ref mm), (1, .int (nI i)), (2, .int (nI k)), (3, .int (nI (n + 1))), (4, .ref (gd 110)), (5, .ref (gd 111)), (6, .int (nI (j + 1)))]) hC 6 [1, 2, 3, 4, 5, 6, 0] dX5_eliminate_142 rfl (nI_1 j) (by decide) rfl ?_
      refine px_goto hC 26 dX5_eliminate_145 (by decide) ?_
      have kk : ∀ t, t ≠ 112 → t ≠ 113 → t ≠ 114 → t ≠ 115 → t ≠ pi ((n + 1) * i + j) → W6 t = W t := fun t a1 a2 a3 a4 a5 => by rw [k6 t a5, k5 t a4, k4 t a3, k3 t a1, k2 t a2, k1 t a1]
      refine ih (j + 1) g5 W6 (by omega) gu5 gk5 (by rw [kk _ (by decide) (by decide) (by decide) (by decide) (by omega)]; exact w0) (by rw [kk _ (by decide) (by decide) (by decide) (by decide) (by omega)]; exact w1) (fun a cc ha hc => ?_)
      by_cases q : a = i ∧ cc = j
      · obtain ⟨rfl, rfl⟩ := q
        rw [x6, if_pos ⟨rfl, by omega⟩]
      · have p4 := pl a cc ha hc
        rw [kk _ (by omega) (by omega) (by omega) (by omega) (fun h => q (pe a cc i j ha hc hi hjn h)), wM a cc ha hc]
        by_cases q2 : a = i ∧ cc < j
        · rw [if_pos q2, if_pos ⟨q2.1, by omega⟩]
        · rw [if_neg q2, if_neg (fun h => q2 ⟨h.1, by have : cc ≠ j := fun h2 => q ⟨h.1, h2⟩; omega⟩)]
  have gk0 : gK gd pd f f := gK.rf
  refine px_aload_n hC 0 rfl dX5_eliminate_0 ?_
  refine px_get (C := RX5) (T := TX5) (N := 7) hC (kq gk0) rfl kkX5_eliminate_X5 6 (by decide) flX5_eliminate_32 rfl dX5_eliminate_1 ?_
  refine px_iconst (v := nI 1) hC (by decide) dX5_eliminate_4 ?_
  refine px_aald (t0 := 2) hC (ks gk0) rfl rfl (by decide) (by first | decide | assumption | omega) s1 dX5_eliminate_5 ?_
  refine px_astore (lv' := [(0, .ref mm), (1, .int (nI i)), (2, .int (nI k)), (3, .int (nI (n + 1))), (4, .ref (gd 110)), (5, .ref (gd 111))]) hC [1, 2, 3, 4, 5, 0] dX5_eliminate_6 (by decide) rfl ?_
  refine px_aload hC 5 rfl dX5_eliminate_8 ?_
  refine px_aload_n hC 0 rfl dX5_eliminate_10 ?_
  refine px_get (C := RX5) (T := TX5) (N := 7) hC (kq gk0) rfl kkX5_eliminate_X5 5 (by decide) flX5_eliminate_28 rfl dX5_eliminate_11 ?_
  refine px_iload_n hC 3 rfl dX5_eliminate_14 ?_
  refine px_iload_n hC 1 rfl dX5_eliminate_15 ?_
  refine px_imul hC dX5_eliminate_16 ?_
  refine px_iload_n hC 2 rfl dX5_eliminate_17 ?_
  refine px_iadd hC dX5_eliminate_18 ?_
  refine px_ei (y := nI ((n + 1) * i + k)) (by rw [pk_mul, nI_add]) ?_
  refine px_aald (t0 := 2) hC (kx gk0) rfl rfl (lt i k hi (by omega)) (by first | decide | assumption | omega) (hmr _ (lt i k hi (by omega))) dX5_eliminate_19 ?_
  have p0 := pl i k hi (by omega)
  obtain ⟨pf0, at0⟩ := hU.at (show 111 < 118 by decide)
  refine px_callVv (C := RX4) (T := TX4) (N := 4) (st := []) (nn := 1) hC (c_uSet2 l 111 (pi ((n + 1) * i + k)) hU (by decide) (by omega) (by omega)) at0 rfl gX5_eliminate_X4_set_ rfl (by decide +kernel) (by decide) (Nat.le_of_ble_eq_true rfl) (by decide) rfl rfl dX5_eliminate_20 (fun g0 h0 => ?_)
  obtain ⟨gu0, gk0'⟩ := h0
  obtain ⟨W0, e0, x0, k0⟩ := up_ex V 111 (V (pi ((n + 1) * i + k)))
  rw [← e0] at gu0
  refine px_iconst (v := nI 0) hC (by decide) dX5_eliminate_23 ?_
  refine px_istore (lv' := [(0, .ref mm), (1, .int (nI i)), (2, .int (nI k)), (3, .int (nI (n + 1))), (4, .ref (gd 110)), (5, .ref (gd 111)), (6, .int (nI 0))]) hC [1, 2, 3, 4, 5, 6, 0] dX5_eliminate_24 (by decide) rfl ?_
  exact loop (n + 1) 0 g0 W0 (by omega) gu0 gk0' (by rw [k0 _ (by decide)]; exact hd) (by rw [x0]; exact hM i k hi (by omega)) (fun a cc ha hc => by have := pl a cc ha hc; rw [k0 _ (by omega), if_neg (fun h => absurd h.2 (by omega))]; exact hM a cc ha hc)
end MM
