/-! ===== the law ===== -/
def LI (E : px_E) (L : List Nat) (f : Nat → va_E) (rr sy nm dn el lt cs np od wk tp bt ot ob : Nat) (ad0 ra : Nat → Nat) (mm nb ab ud mx so : Nat) (gd pd : Nat → Nat) (n : Nat) (w : Nat → Nat → Int32) (r : Nat → Int32) (td : Nat) (nu de nu2 de2 : Nat → Int64) : Prop := XS E L f rr sy nm dn el lt cs np od wk tp bt ot ob ad0 ra n w td nu de ∧ MS E L f mm nb ab ud mx so gd pd n r td nu2 de2 ∧ (∀ i j, i < n → j ≤ n → r ((n + 1) * i + j) = w i j) ∧ (td = 1 → ∀ i, i < n → nu i = nu2 i ∧ de i = de2 i)
theorem mA_same {w w' : Nat → Nat → Int32} {n : Nat} (h : ∀ i j, i < n → j ≤ n → w i j = w' i j) : mA w n = mA w' n := by
  funext i j
  unfold mA
  by_cases q : i < n ∧ j ≤ n
  · rw [if_pos q, if_pos q, h i j q.1 q.2]
  · rw [if_neg q, if_neg q]

set_option maxHeartbeats 4000000 in
theorem law_loop {p : Program} {l : Launch} {e : Env} {s : State} {m : MethodId} {below : List Frame} {meth : Method} {c : Code} {E : px_E} {A : Nat → Prop} {b Lx : Nat} {xs : Nat → Int32} {Q : State → Prop} {L : List Nat} {rr sy nm dn el lt cs np od wk tp bt ot ob : Nat} {ad0 ra : Nat → Nat} {mm nb ab ud mx so : Nat} {gd pd : Nat → Nat} (hC : px_C p s m #[Value.ref b] meth c cL_law RL wsL_law 4 ret E A s.heap) (hX : va_X b Lx xs s s.heap) (hbl : b < s.heap.size) (hbA : ¬ A b) (hL : Lx ≤ 2048) (hdis : ∀ c, fX rr sy nm dn el lt cs np od wk tp bt ot ob ad0 ra c → ¬ fMo mm nb ab ud mx so gd pd c) (hend : ∀ (f : Nat → va_E) (lv : List (Nat × Value)), px p l e room_1 s m #[Value.ref b] below meth c 4 E A s.heap L f 376 8177 Q 239 lv [.int (nI 1)]) :
    ∀ (d i : Nat) (f : Nat → va_E) (n : Nat) (w : Nat → Nat → Int32) (r : Nat → Int32) (td : Nat) (nu de nu2 de2 : Nat → Int64), Lx ≤ i + 4 * d → i < 3000 → LI E L f rr sy nm dn el lt cs np od wk tp bt ot ob ad0 ra mm nb ab ud mx so gd pd n w r td nu de nu2 de2 → px p l e room_1 s m #[Value.ref b] below meth c 4 E A s.heap L f 376 8177 Q 18 [(0, .ref b), (1, .ref rr), (2, .ref mm), (3, .int (nI i))] [] := by
  have stop : ∀ (i : Nat) (f : Nat → va_E), i < 3000 → Lx < i + 4 → px p l e room_1 s m #[Value.ref b] below meth c 4 E A s.heap L (f) (376) (8177) Q 18 [(0, .ref b), (1, .ref rr), (2, .ref mm), (3, .int (nI i))] [] := by
    intro i f hi hlt
    refine px_iload_n hC 3 rfl dL_law_18 ?_
    refine px_aload_n hC 0 rfl dL_law_19 ?_
    refine px_xlen hC hX hbl hbA dL_law_20 ?_
    refine px_iconst (v := nI 4) hC (by decide) dL_law_21 ?_
    refine px_isub hC dL_law_22 ?_
    refine px_icmp_gt hC 238 dL_law_23 (by decide) (fun _ => ?_) (fun q9 => (q9 (lw_gt hL (by omega) hlt)).elim)
    refine px_iconst (v := nI 1) hC (by decide) dL_law_238 ?_
    exact hend f _
  intro d
  induction d with
  | zero =>
    intro i f n w r td nu de nu2 de2 hd hi hI
    exact stop i f hi (by omega)
  | succ d ih =>
    intro i f n w r td nu de nu2 de2 hd hi hI
    rcases Nat.lt_or_ge Lx (i + 4) with hlt | hge
    · exact stop i f hi hlt
    have next : ∀ (f : Nat → va_E) (n : Nat) (w : Nat → Nat → Int32) (r : Nat → Int32) (td : Nat) (nu de nu2 de2 : Nat → Int64), LI E L f rr sy nm dn el lt cs np od wk tp bt ot ob ad0 ra mm nb ab ud mx so gd pd n w r td nu de nu2 de2 → px p l e room_1 s m #[Value.ref b] below meth c 4 E A s.heap L (f) (376) (8177) Q 232 [(0, .ref b), (1, .ref rr), (2, .ref mm), (3, .int (nI i))] [] := by
      intro f n w r td nu de nu2 de2 hI
      refine px_iinc (v := nI (i + 4)) (lv' := [(0, .ref b), (1, .ref rr), (2, .ref mm), (3, .int (nI (i + 4)))]) hC 3 [1, 2, 3, 0] dL_law_232 rfl (nI_add i 4) (by decide) rfl ?_
      refine px_goto hC 18 dL_law_235 (by decide) ?_
      exact ih (i + 4) f n w r td nu de nu2 de2 (by omega) (by omega) hI
    obtain ⟨hx, hm, hrw, htt⟩ := id hI
    have hxr := hx.2.2.2.2.1
    have hmr : ∀ {f'}, MS E L f' mm nb ab ud mx so gd pd n r td nu2 de2 → px_at L f' mm (.inr (4, mF nb ab ud mx so (nI n) (nI td))) := fun h => by obtain ⟨-, -, -, pi, V, hw⟩ := h; exact hw.1
    have mfr : ∀ {f'}, (∀ c, ¬ fX rr sy nm dn el lt cs np od wk tp bt ot ob ad0 ra c → f' c = f c) → MS E L f' mm nb ab ud mx so gd pd n r td nu2 de2 := fun h => MS_fr hm (fun c hc => h c (fun z => hdis c z hc))
    refine px_iload_n hC 3 rfl dL_law_18 ?_
    refine px_aload_n hC 0 rfl dL_law_19 ?_
    refine px_xlen hC hX hbl hbA dL_law_20 ?_
    refine px_iconst (v := nI 4) hC (by decide) dL_law_21 ?_
    refine px_isub hC dL_law_22 ?_
    refine px_icmp_gt hC 238 dL_law_23 (by decide) (fun q9 => absurd q9 (lw_le hL hge)) (fun _ => ?_)
    refine px_aload_n hC 0 rfl dL_law_26 ?_
    refine px_iload_n hC 3 rfl dL_law_27 ?_
    refine px_xld hC hX hbl hbA (show i < Lx by omega) hL dL_law_28 ?_
    refine px_bipush (v := nI 7) hC (by decide) dL_law_29 ?_
    refine px_iand hC dL_law_31 ?_
    rcases tab_c (xs i &&& nI 7) with ht | ⟨k, hk, ek⟩
    · refine px_tabO (tgt := 232) hC dL_law_32 (ht) (by decide) ?_
      exact next f n w r td nu de nu2 de2 hI
    rw [ek]
    rcases (show k = 0 ∨ k = 1 ∨ k = 2 ∨ k = 3 ∨ k = 4 ∨ k = 5 by omega) with rfl | rfl | rfl | rfl | rfl | rfl
    · refine px_tab (off := 40) (tgt := 72) hC dL_law_32 (by decide) (by decide) (by decide) (by decide) ?_
      refine px_aload_n hC 1 rfl dL_law_72 ?_
      refine px_aload_n hC 0 rfl dL_law_73 ?_
      refine px_iload_n hC 3 rfl dL_law_74 ?_
      refine px_iconst (v := nI 1) hC (by decide) dL_law_75 ?_
      refine px_iadd hC dL_law_76 ?_
      refine px_ei (y := nI (i + 1)) (nI_add i 1) ?_
      refine px_xld hC hX hbl hbA (show i + 1 < Lx by omega) hL dL_law_77 ?_
      refine px_callVi (C := RX3) (T := TX3) (N := 7) (st := []) (nn := 1) hC (c_begin l (xs (i + 1)) hx) hxr rfl gL_law_X3_begin rfl (by decide +kernel) (by decide) (Nat.le_of_ble_eq_true rfl) (by decide) rfl rfl dL_law_78 (fun z1 f1 h1 => ?_)
      refine px_aload_n hC 2 rfl dL_law_81 ?_
      refine px_aload_n hC 0 rfl dL_law_82 ?_
      refine px_iload_n hC 3 rfl dL_law_83 ?_
      refine px_iconst (v := nI 1) hC (by decide) dL_law_84 ?_
      refine px_iadd hC dL_law_85 ?_
      refine px_ei (y := nI (i + 1)) (nI_add i 1) ?_
      refine px_xld hC hX hbl hbA (show i + 1 < Lx by omega) hL dL_law_86 ?_
      rcases h1 with ⟨n', e1, q1, q2, rfl, hx1, fr1⟩ | ⟨no, rfl, rfl⟩
      · have hm1 := mfr fr1
        refine px_callVi (C := RX5) (T := TX5) (N := 7) (st := [.int (nI 1)]) (nn := 1) hC (c_mBegin l (xs (i + 1)) hm1) (hmr hm1) rfl gL_law_X5_begin rfl (by decide +kernel) (by decide) (Nat.le_of_ble_eq_true rfl) (by decide) rfl rfl dL_law_87 (fun z2 f2 h2 => ?_)
        rcases h2 with ⟨n2, e2, q3, q4, rfl, ⟨r', hr', hm2⟩, fr2⟩ | ⟨no, -⟩
        · have en : n' = n2 := nI_inj2 (by omega) (by omega) (e1.symm.trans e2)
          subst en
          refine px_icmp_eq hC 232 dL_law_90 (by decide) (fun _ => ?_) (fun q9 => (q9 (rfl)).elim)
          exact next f2 n' _ r' 0 nu de nu2 de2 ⟨XS_fr hx1 (fun c hc => fr2 c (hdis c hc)), hm2, fun a j ha hj => hr' _ (ix_lt q2 ha hj), fun h => absurd h (by decide)⟩
        · exact absurd ⟨n', e1, q1, q2⟩ no
      · refine px_callVi (C := RX5) (T := TX5) (N := 7) (st := [.int (nI 0)]) (nn := 1) hC (c_mBegin l (xs (i + 1)) hm) (hmr hm) rfl gL_law_X5_begin rfl (by decide +kernel) (by decide) (Nat.le_of_ble_eq_true rfl) (by decide) rfl rfl dL_law_87 (fun z2 f2 h2 => ?_)
        rcases h2 with ⟨n2, e2, q3, q4, -⟩ | ⟨-, rfl, rfl⟩
        · exact absurd ⟨n2, e2, q3, q4⟩ no
        · refine px_icmp_eq hC 232 dL_law_90 (by decide) (fun _ => ?_) (fun q9 => (q9 (rfl)).elim)
          exact next f2 n w r td nu de nu2 de2 hI
    · refine px_tab (off := 63) (tgt := 95) hC dL_law_32 (by decide) (by decide) (by decide) (by decide) ?_
      refine px_aload_n hC 1 rfl dL_law_95 ?_
      refine px_aload_n hC 0 rfl dL_law_96 ?_
      refine px_iload_n hC 3 rfl dL_law_97 ?_
      refine px_iconst (v := nI 1) hC (by decide) dL_law_98 ?_
      refine px_iadd hC dL_law_99 ?_
      refine px_ei (y := nI (i + 1)) (nI_add i 1) ?_
      refine px_xld hC hX hbl hbA (show i + 1 < Lx by omega) hL dL_law_100 ?_
      refine px_aload_n hC 0 rfl dL_law_101 ?_
      refine px_iload_n hC 3 rfl dL_law_102 ?_
      refine px_iconst (v := nI 2) hC (by decide) dL_law_103 ?_
      refine px_iadd hC dL_law_104 ?_
      refine px_ei (y := nI (i + 2)) (nI_add i 2) ?_
      refine px_xld hC hX hbl hbA (show i + 2 < Lx by omega) hL dL_law_105 ?_
      refine px_aload_n hC 0 rfl dL_law_106 ?_
      refine px_iload_n hC 3 rfl dL_law_107 ?_
      refine px_iconst (v := nI 3) hC (by decide) dL_law_108 ?_
      refine px_iadd hC dL_law_109 ?_
      refine px_ei (y := nI (i + 3)) (nI_add i 3) ?_
      refine px_xld hC hX hbl hbA (show i + 3 < Lx by omega) hL dL_law_110 ?_
      refine px_callVi (C := RX3) (T := TX3) (N := 7) (st := []) (nn := 3) hC (c_put l (xs (i + 1)) (xs (i + 2)) (xs (i + 3)) hx) hxr rfl gL_law_X3_put rfl (by decide +kernel) (by decide) (Nat.le_of_ble_eq_true rfl) (by decide) rfl rfl dL_law_111 (fun z1 f1 h1 => ?_)
      refine px_aload_n hC 2 rfl dL_law_114 ?_
      refine px_aload_n hC 0 rfl dL_law_115 ?_
      refine px_iload_n hC 3 rfl dL_law_116 ?_
      refine px_iconst (v := nI 1) hC (by decide) dL_law_117 ?_
      refine px_iadd hC dL_law_118 ?_
      refine px_ei (y := nI (i + 1)) (nI_add i 1) ?_
      refine px_xld hC hX hbl hbA (show i + 1 < Lx by omega) hL dL_law_119 ?_
      refine px_aload_n hC 0 rfl dL_law_120 ?_
      refine px_iload_n hC 3 rfl dL_law_121 ?_
      refine px_iconst (v := nI 2) hC (by decide) dL_law_122 ?_
      refine px_iadd hC dL_law_123 ?_
      refine px_ei (y := nI (i + 2)) (nI_add i 2) ?_
      refine px_xld hC hX hbl hbA (show i + 2 < Lx by omega) hL dL_law_124 ?_
      refine px_aload_n hC 0 rfl dL_law_125 ?_
      refine px_iload_n hC 3 rfl dL_law_126 ?_
      refine px_iconst (v := nI 3) hC (by decide) dL_law_127 ?_
      refine px_iadd hC dL_law_128 ?_
      refine px_ei (y := nI (i + 3)) (nI_add i 3) ?_
      refine px_xld hC hX hbl hbA (show i + 3 < Lx by omega) hL dL_law_129 ?_
      rcases h1 with ⟨i1, j1, e1, e2, q1, q2, rfl, hx1, fr1⟩ | ⟨no, rfl, rfl⟩
      · have hm1 := mfr fr1
        refine px_callVi (C := RX5) (T := TX5) (N := 7) (st := [.int (nI 1)]) (nn := 3) hC (c_mPut l (xs (i + 1)) (xs (i + 2)) (xs (i + 3)) hm1) (hmr hm1) rfl gL_law_X5_put rfl (by decide +kernel) (by decide) (Nat.le_of_ble_eq_true rfl) (by decide) rfl rfl dL_law_130 (fun z2 f2 h2 => ?_)
        rcases h2 with ⟨i2, j2, e3, e4, q3, q4, rfl, hm2, fr2⟩ | ⟨no, -⟩
        · have hn := hx.2.2.1
          have en : i1 = i2 := nI_inj2 (by omega) (by omega) (e1.symm.trans e3)
          subst en
          have en : j1 = j2 := nI_inj2 (by omega) (by omega) (e2.symm.trans e4)
          subst en
          refine px_icmp_eq hC 232 dL_law_133 (by decide) (fun _ => ?_) (fun q9 => (q9 (rfl)).elim)
          refine next f2 n _ _ td nu de nu2 de2 ⟨XS_fr hx1 (fun c hc => fr2 c (hdis c hc)), hm2, fun a j ha hj => ?_, htt⟩
          by_cases z : (n + 1) * a + j = (n + 1) * i1 + j1
          · obtain ⟨rfl, rfl⟩ := ix_inj hj q2 z
            rw [pk_us, va_up_self, pk_us]
          · rw [pk_un z]
            by_cases z2 : a = i1
            · subst z2
              rw [va_up_self, pk_un (fun z3 => z (by rw [z3]))]
              exact hrw a j ha hj
            · rw [va_up_ne _ _ z2]; exact hrw a j ha hj
        · exact absurd ⟨i1, j1, e1, e2, q1, q2⟩ no
      · refine px_callVi (C := RX5) (T := TX5) (N := 7) (st := [.int (nI 0)]) (nn := 3) hC (c_mPut l (xs (i + 1)) (xs (i + 2)) (xs (i + 3)) hm) (hmr hm) rfl gL_law_X5_put rfl (by decide +kernel) (by decide) (Nat.le_of_ble_eq_true rfl) (by decide) rfl rfl dL_law_130 (fun z2 f2 h2 => ?_)
        rcases h2 with ⟨i2, j2, e3, e4, q3, q4, -⟩ | ⟨-, rfl, rfl⟩
        · exact absurd ⟨i2, j2, e3, e4, q3, q4⟩ no
        · refine px_icmp_eq hC 232 dL_law_133 (by decide) (fun _ => ?_) (fun q9 => (q9 (rfl)).elim)
          exact next f2 n w r td nu de nu2 de2 hI
    · refine px_tab (off := 106) (tgt := 138) hC dL_law_32 (by decide) (by decide) (by decide) (by decide) ?_
      refine px_aload_n hC 1 rfl dL_law_138 ?_
      refine px_aload_n hC 0 rfl dL_law_139 ?_
      refine px_iload_n hC 3 rfl dL_law_140 ?_
      refine px_iconst (v := nI 1) hC (by decide) dL_law_141 ?_
      refine px_iadd hC dL_law_142 ?_
      refine px_ei (y := nI (i + 1)) (nI_add i 1) ?_
      refine px_xld hC hX hbl hbA (show i + 1 < Lx by omega) hL dL_law_143 ?_
      refine px_aload_n hC 0 rfl dL_law_144 ?_
      refine px_iload_n hC 3 rfl dL_law_145 ?_
      refine px_iconst (v := nI 2) hC (by decide) dL_law_146 ?_
      refine px_iadd hC dL_law_147 ?_
      refine px_ei (y := nI (i + 2)) (nI_add i 2) ?_
      refine px_xld hC hX hbl hbA (show i + 2 < Lx by omega) hL dL_law_148 ?_
      refine px_callVi (C := RX3) (T := TX3) (N := 7) (st := []) (nn := 2) hC (c_get l (xs (i + 1)) (xs (i + 2)) hx) hxr rfl gL_law_X3_get rfl (by decide +kernel) (by decide) (Nat.le_of_ble_eq_true rfl) (by decide) rfl rfl dL_law_149 (fun z1 f1 h1 => ?_)
      obtain ⟨rfl, h1⟩ := h1
      refine px_aload_n hC 2 rfl dL_law_152 ?_
      refine px_aload_n hC 0 rfl dL_law_153 ?_
      refine px_iload_n hC 3 rfl dL_law_154 ?_
      refine px_iconst (v := nI 1) hC (by decide) dL_law_155 ?_
      refine px_iadd hC dL_law_156 ?_
      refine px_ei (y := nI (i + 1)) (nI_add i 1) ?_
      refine px_xld hC hX hbl hbA (show i + 1 < Lx by omega) hL dL_law_157 ?_
      refine px_aload_n hC 0 rfl dL_law_158 ?_
      refine px_iload_n hC 3 rfl dL_law_159 ?_
      refine px_iconst (v := nI 2) hC (by decide) dL_law_160 ?_
      refine px_iadd hC dL_law_161 ?_
      refine px_ei (y := nI (i + 2)) (nI_add i 2) ?_
      refine px_xld hC hX hbl hbA (show i + 2 < Lx by omega) hL dL_law_162 ?_
      refine px_callVi (C := RX5) (T := TX5) (N := 7) (st := [.int z1]) (nn := 2) hC (c_mGet l (xs (i + 1)) (xs (i + 2)) hm) (hmr hm) rfl gL_law_X5_get rfl (by decide +kernel) (by decide) (Nat.le_of_ble_eq_true rfl) (by decide) rfl rfl dL_law_163 (fun z2 f2 h2 => ?_)
      obtain ⟨rfl, h2⟩ := h2
      have ez : z1 = z2 := by
        have hn := hx.2.2.1
        rcases h1 with ⟨i1, j1, e1, e2, q1, q2, rfl⟩ | ⟨no, rfl⟩ <;> rcases h2 with ⟨i2, j2, e3, e4, q3, q4, rfl⟩ | ⟨no2, rfl⟩
        · have en : i1 = i2 := nI_inj2 (by omega) (by omega) (e1.symm.trans e3)
          subst en
          have en : j1 = j2 := nI_inj2 (by omega) (by omega) (e2.symm.trans e4)
          subst en
          exact (hrw i1 j1 q1 q2).symm
        · exact absurd ⟨i1, j1, e1, e2, q1, q2⟩ no2
        · exact absurd ⟨i2, j2, e3, e4, q3, q4⟩ no
        · rfl
      refine px_icmp_eq hC 232 dL_law_166 (by decide) (fun _ => ?_) (fun q9 => (q9 (ez)).elim)
      exact next _ n w r td nu de nu2 de2 hI
    · refine px_tab (off := 139) (tgt := 171) hC dL_law_32 (by decide) (by decide) (by decide) (by decide) ?_
      refine px_aload_n hC 1 rfl dL_law_171 ?_
      refine px_callVi (C := RX3) (T := TX3) (N := 7) (st := []) (nn := 0) hC (c_solve l hx) hxr rfl gL_law_X3_solve rfl (by decide +kernel) (by decide) (Nat.le_of_ble_eq_true rfl) (by decide) rfl rfl dL_law_172 (fun z1 f1 h1 => ?_)
      obtain ⟨td1, nu1, de1, hx1, fr1, s1⟩ := h1
      have hm1 := mfr fr1
      refine px_aload_n hC 2 rfl dL_law_175 ?_
      refine px_callVi (C := RX5) (T := TX5) (N := 7) (st := [.int z1]) (nn := 0) hC (c_mSolve l hm1) (hmr hm1) rfl gL_law_X5_solve rfl (by decide +kernel) (by decide) (Nat.le_of_ble_eq_true rfl) (by decide) rfl rfl dL_law_176 (fun z2 f2 h2 => ?_)
      obtain ⟨td2, nu3, de3, hm2, fr2, s2⟩ := h2
      rw [mA_same (w' := w) hrw] at s2
      obtain ⟨ez, et, en⟩ := sR_det s1 s2
      subst et
      refine px_icmp_eq hC 232 dL_law_179 (by decide) (fun _ => ?_) (fun q9 => (q9 (ez)).elim)
      exact next f2 n w r td1 nu1 de1 nu3 de3 ⟨XS_fr hx1 (fun c hc => fr2 c (hdis c hc)), hm2, hrw, en⟩
    · refine px_tab (off := 152) (tgt := 184) hC dL_law_32 (by decide) (by decide) (by decide) (by decide) ?_
      refine px_aload_n hC 1 rfl dL_law_184 ?_
      refine px_aload_n hC 0 rfl dL_law_185 ?_
      refine px_iload_n hC 3 rfl dL_law_186 ?_
      refine px_iconst (v := nI 1) hC (by decide) dL_law_187 ?_
      refine px_iadd hC dL_law_188 ?_
      refine px_ei (y := nI (i + 1)) (nI_add i 1) ?_
      refine px_xld hC hX hbl hbA (show i + 1 < Lx by omega) hL dL_law_189 ?_
      refine px_callVl (C := RX3) (T := TX3) (N := 7) (st := []) (nn := 1) hC (c_above l (xs (i + 1)) hx) hxr rfl gL_law_X3_above rfl (by decide +kernel) (by decide) (Nat.le_of_ble_eq_true rfl) (by decide) rfl rfl dL_law_190 (fun z1 f1 h1 => ?_)
      obtain ⟨rfl, h1⟩ := h1
      refine px_aload_n hC 2 rfl dL_law_193 ?_
      refine px_aload_n hC 0 rfl dL_law_194 ?_
      refine px_iload_n hC 3 rfl dL_law_195 ?_
      refine px_iconst (v := nI 1) hC (by decide) dL_law_196 ?_
      refine px_iadd hC dL_law_197 ?_
      refine px_ei (y := nI (i + 1)) (nI_add i 1) ?_
      refine px_xld hC hX hbl hbA (show i + 1 < Lx by omega) hL dL_law_198 ?_
      refine px_callVl (C := RX5) (T := TX5) (N := 7) (st := [.long z1]) (nn := 1) hC (c_mAbove l (xs (i + 1)) hm) (hmr hm) rfl gL_law_X5_above rfl (by decide +kernel) (by decide) (Nat.le_of_ble_eq_true rfl) (by decide) rfl rfl dL_law_199 (fun z2 f2 h2 => ?_)
      obtain ⟨rfl, h2⟩ := h2
      have ez : z1 = z2 := by
        have hn := hx.2.2.1
        rcases h1 with ⟨i1, t1, e1, q1, rfl⟩ | ⟨no, rfl⟩ <;> rcases h2 with ⟨i2, t2, e2, q2, rfl⟩ | ⟨no2, rfl⟩
        · have en : i1 = i2 := nI_inj2 (by omega) (by omega) (e1.symm.trans e2)
          subst en
          exact (htt t1 i1 q1).1
        · exact absurd ⟨t1, i1, e1, q1⟩ no2
        · exact absurd ⟨t2, i2, e2, q2⟩ no
        · rfl
      refine px_lcmp hC dL_law_202 ?_
      refine px_if_eq hC 232 dL_law_203 (by decide) (fun _ => ?_) (fun q9 => (q9 (by rw [ez]; exact lg_self z2)).elim)
      exact next _ n w r td nu de nu2 de2 hI
    · refine px_tab (off := 176) (tgt := 208) hC dL_law_32 (by decide) (by decide) (by decide) (by decide) ?_
      refine px_aload_n hC 1 rfl dL_law_208 ?_
      refine px_aload_n hC 0 rfl dL_law_209 ?_
      refine px_iload_n hC 3 rfl dL_law_210 ?_
      refine px_iconst (v := nI 1) hC (by decide) dL_law_211 ?_
      refine px_iadd hC dL_law_212 ?_
      refine px_ei (y := nI (i + 1)) (nI_add i 1) ?_
      refine px_xld hC hX hbl hbA (show i + 1 < Lx by omega) hL dL_law_213 ?_
      refine px_callVl (C := RX3) (T := TX3) (N := 7) (st := []) (nn := 1) hC (c_under l (xs (i + 1)) hx) hxr rfl gL_law_X3_under rfl (by decide +kernel) (by decide) (Nat.le_of_ble_eq_true rfl) (by decide) rfl rfl dL_law_214 (fun z1 f1 h1 => ?_)
      obtain ⟨rfl, h1⟩ := h1
      refine px_aload_n hC 2 rfl dL_law_217 ?_
      refine px_aload_n hC 0 rfl dL_law_218 ?_
      refine px_iload_n hC 3 rfl dL_law_219 ?_
      refine px_iconst (v := nI 1) hC (by decide) dL_law_220 ?_
      refine px_iadd hC dL_law_221 ?_
      refine px_ei (y := nI (i + 1)) (nI_add i 1) ?_
      refine px_xld hC hX hbl hbA (show i + 1 < Lx by omega) hL dL_law_222 ?_
      refine px_callVl (C := RX5) (T := TX5) (N := 7) (st := [.long z1]) (nn := 1) hC (c_mUnder l (xs (i + 1)) hm) (hmr hm) rfl gL_law_X5_under rfl (by decide +kernel) (by decide) (Nat.le_of_ble_eq_true rfl) (by decide) rfl rfl dL_law_223 (fun z2 f2 h2 => ?_)
      obtain ⟨rfl, h2⟩ := h2
      have ez : z1 = z2 := by
        have hn := hx.2.2.1
        rcases h1 with ⟨i1, t1, e1, q1, rfl⟩ | ⟨no, rfl⟩ <;> rcases h2 with ⟨i2, t2, e2, q2, rfl⟩ | ⟨no2, rfl⟩
        · have en : i1 = i2 := nI_inj2 (by omega) (by omega) (e1.symm.trans e2)
          subst en
          exact (htt t1 i1 q1).2
        · exact absurd ⟨t1, i1, e1, q1⟩ no2
        · exact absurd ⟨t2, i2, e2, q2⟩ no
        · rfl
      refine px_lcmp hC dL_law_226 ?_
      refine px_if_eq hC 232 dL_law_227 (by decide) (fun _ => ?_) (fun q9 => (q9 (by rw [ez]; exact lg_self z2)).elim)
      exact next _ n w r td nu de nu2 de2 hI
