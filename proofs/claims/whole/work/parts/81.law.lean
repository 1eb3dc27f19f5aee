
/-! ===== what the law needs ===== -/
section LX
variable {E : px_E} {L L' : List Nat} {f g : Nat → va_E} {rr sy nm dn el lt cs np od wk tp bt ot ob : Nat} {ad0 ra : Nat → Nat} {n : Nat} {w : Nat → Nat → Int32} {td : Nat} {nu de : Nat → Int64}
theorem XS_gx {o : Nat} (h : XS E L f rr sy nm dn el lt cs np od wk tp bt ot ob ad0 ra n w td nu de) (hx : gx L f o L' g) (ho : ¬ fX rr sy nm dn el lt cs np od wk tp bt ot ob ad0 ra o) : XS E L' g rr sy nm dn el lt cs np od wk tp bt ot ob ad0 ra n w td nu de := by
  obtain ⟨hG, h1n, hn, htd, hq, ⟨sr, hsy, hsr⟩, hra, hnm, hdn, hE, hL⟩ := h
  have k : ∀ b, fX rr sy nm dn el lt cs np od wk tp bt ot ob ad0 ra b → b ≠ o := fun b hb z => ho (z ▸ hb)
  exact ⟨hG, h1n, hn, htd, hx.at hq (k _ (Or.inl rfl)), ⟨sr, hx.at hsy (k _ (Or.inr (Or.inl rfl))), hsr⟩, fun i hi => hx.at (hra i hi) (k _ (Or.inr (Or.inr (Or.inr (Or.inr (Or.inr (Or.inr (Or.inr (Or.inr (Or.inr (Or.inr ⟨i, hi, rfl⟩))))))))))), hx.at hnm (k _ (Or.inr (Or.inr (Or.inl rfl)))), hx.at hdn (k _ (Or.inr (Or.inr (Or.inr (Or.inl rfl))))), eOK_gx hE hx (fun z => ho (Or.inr (Or.inr (Or.inr (Or.inr (Or.inl z)))))), lOK_gx hL hx (k _ (Or.inr (Or.inr (Or.inr (Or.inr (Or.inr (Or.inl rfl))))))) (k _ (Or.inr (Or.inr (Or.inr (Or.inr (Or.inr (Or.inr (Or.inl rfl)))))))) (k _ (Or.inr (Or.inr (Or.inr (Or.inr (Or.inr (Or.inr (Or.inr (Or.inl rfl))))))))) (k _ (Or.inr (Or.inr (Or.inr (Or.inr (Or.inr (Or.inr (Or.inr (Or.inr (Or.inl rfl)))))))))) (k _ (Or.inr (Or.inr (Or.inr (Or.inr (Or.inr (Or.inr (Or.inr (Or.inr (Or.inr (Or.inl rfl)))))))))))⟩
theorem XS_fr (h : XS E L f rr sy nm dn el lt cs np od wk tp bt ot ob ad0 ra n w td nu de) (hf : ∀ b, fX rr sy nm dn el lt cs np od wk tp bt ot ob ad0 ra b → g b = f b) : XS E L g rr sy nm dn el lt cs np od wk tp bt ot ob ad0 ra n w td nu de := by
  obtain ⟨hG, h1n, hn, htd, hq, ⟨sr, hsy, hsr⟩, hra, hnm, hdn, hE, hL⟩ := h
  exact ⟨hG, h1n, hn, htd, hq.fr (hf _ (Or.inl rfl)), ⟨sr, hsy.fr (hf _ (Or.inr (Or.inl rfl))), hsr⟩, fun i hi => (hra i hi).fr (hf _ (Or.inr (Or.inr (Or.inr (Or.inr (Or.inr (Or.inr (Or.inr (Or.inr (Or.inr (Or.inr ⟨i, hi, rfl⟩))))))))))), hnm.fr (hf _ (Or.inr (Or.inr (Or.inl rfl)))), hdn.fr (hf _ (Or.inr (Or.inr (Or.inr (Or.inl rfl))))), eOK_fr hE (fun b z => hf b (Or.inr (Or.inr (Or.inr (Or.inr (Or.inl z)))))), lOK_fr hL (hf _ (Or.inr (Or.inr (Or.inr (Or.inr (Or.inr (Or.inl rfl))))))) (hf _ (Or.inr (Or.inr (Or.inr (Or.inr (Or.inr (Or.inr (Or.inl rfl)))))))) (hf _ (Or.inr (Or.inr (Or.inr (Or.inr (Or.inr (Or.inr (Or.inr (Or.inl rfl))))))))) (hf _ (Or.inr (Or.inr (Or.inr (Or.inr (Or.inr (Or.inr (Or.inr (Or.inr (Or.inl rfl)))))))))) (hf _ (Or.inr (Or.inr (Or.inr (Or.inr (Or.inr (Or.inr (Or.inr (Or.inr (Or.inr (Or.inl rfl)))))))))))⟩
end LX
theorem MS_fr {E : px_E} {L : List Nat} {f g : Nat → va_E} {mm nb ab ud mx so : Nat} {gd pd : Nat → Nat} {n : Nat} {r : Nat → Int32} {td : Nat} {nu de : Nat → Int64} (h : MS E L f mm nb ab ud mx so gd pd n r td nu de) (hf : ∀ b, fMo mm nb ab ud mx so gd pd b → g b = f b) : MS E L g mm nb ab ud mx so gd pd n r td nu de := by
  obtain ⟨h1n, hn, htd, pi, V, h1, h2, h3, h4, ⟨mr, h5, h5'⟩, ⟨sr, h6, h6'⟩, h7, h8, h9, h10⟩ := h
  exact ⟨h1n, hn, htd, pi, V, h1.fr (hf _ (Or.inl rfl)), h2.fr (hf _ (Or.inr (Or.inl rfl))), h3.fr (hf _ (Or.inr (Or.inr (Or.inl rfl)))), h4.fr (hf _ (Or.inr (Or.inr (Or.inr (Or.inl rfl))))), ⟨mr, h5.fr (hf _ (Or.inr (Or.inr (Or.inr (Or.inr (Or.inl rfl)))))), h5'⟩, ⟨sr, h6.fr (hf _ (Or.inr (Or.inr (Or.inr (Or.inr (Or.inr (Or.inl rfl))))))), h6'⟩, h7.fr (fun b hb => hf b (Or.inr (Or.inr (Or.inr (Or.inr (Or.inr (Or.inr hb))))))), h8, h9, h10⟩
/-- both solve alike -/
theorem sR_det {n : Nat} {A : Nat → Nat → Int} {z1 z2 : Int32} {t1 t2 : Nat} {nu1 de1 nu2 de2 : Nat → Int64} (h1 : sR n A z1 t1 nu1 de1) (h2 : sR n A z2 t2 nu2 de2) : z1 = z2 ∧ t1 = t2 ∧ (t1 = 1 → ∀ i, i < n → nu1 i = nu2 i ∧ de1 i = de2 i) := by
  rcases h1 with ⟨b1, rfl, rfl⟩ | ⟨d1, M1, b1, c1⟩ <;> rcases h2 with ⟨b2, rfl, rfl⟩ | ⟨d2, M2, b2, c2⟩
  · exact ⟨rfl, rfl, fun h => absurd h (by decide)⟩
  · rw [b1] at b2; cases b2
  · rw [b1] at b2; cases b2
  · rw [b1] at b2
    cases b2
    rcases c1 with ⟨k1, hk1, f1, g1, rfl, rfl⟩ | ⟨f1, rfl, rfl, e1⟩ <;> rcases c2 with ⟨k2, hk2, f2, g2, rfl, rfl⟩ | ⟨f2, rfl, rfl, e2⟩
    · have e : k1 = k2 := by
        rcases Nat.lt_trichotomy k1 k2 with q | q | q
        · exact absurd (f2 k1 q) g1
        · exact q
        · exact absurd (f1 k2 q) g2
      subst e
      exact ⟨rfl, rfl, fun h => absurd h (by decide)⟩
    · exact absurd (f2 k1 hk1) g1
    · exact absurd (f1 k2 hk2) g2
    · exact ⟨rfl, rfl, fun _ i hi => ⟨Int64.toInt_inj.mp ((e1 i hi).1.trans (e2 i hi).1.symm), Int64.toInt_inj.mp ((e1 i hi).2.trans (e2 i hi).2.symm)⟩⟩
theorem lg_self (z : Int64) : lg_cmp z z = 0 := by
  unfold lg_cmp
  rw [if_neg (Int64.lt_irrefl), if_pos rfl]
theorem tab_c (z : Int32) : (z.toInt < 0 ∨ 5 < z.toInt) ∨ ∃ k, k < 6 ∧ z = nI k := by
  by_cases h1 : z.toInt < 0
  · exact Or.inl (Or.inl h1)
  · by_cases h2 : 5 < z.toInt
    · exact Or.inl (Or.inr h2)
    · refine Or.inr ⟨z.toInt.toNat, by omega, Int32.toInt_inj.mp ?_⟩
      rw [nI_toInt (by omega)]; omega
theorem lw_gt {Lx i : Nat} (hL : Lx ≤ 2048) (hi : i < 2 ^ 31) (h : Lx < i + 4) : nI Lx - nI 4 < nI i := by
  rcases Nat.lt_or_ge Lx 4 with q | q
  · have : ∀ a, a < 4 → nI a - nI 4 < 0 := by decide
    exact neg_lt (this Lx q) hi
  · rw [pk_sub q]; exact nI_lt (by omega) (by omega)
theorem lw_le {Lx i : Nat} (hL : Lx ≤ 2048) (h : i + 4 ≤ Lx) : ¬ nI Lx - nI 4 < nI i := by
  rw [pk_sub (by omega)]; exact nI_nlt (by omega) (by omega)
section PXL
variable {p : Program} {l : Launch} {e : Env} {R : Room} {s : State} {m : MethodId} {args : Array Value} {below : List Frame} {meth : Method} {c : Code} {cc : ByteArray} {own : String} {ws : List Cond} {nL : Nat} {ret : Option FieldType} {E : px_E} {A : Nat → Prop} {H0 : Heap} {L : List Nat} {f : Nat → va_E} {n k : Nat} {Q : State → Prop} {pc : Nat} {lv : List (Nat × Value)} {st : List Value}
theorem px_xld (hC : px_C p s m args meth c cc own ws nL ret E A H0) {b Lx i : Nat} {xs : Nat → Int32} (hX : va_X b Lx xs s H0) (hbl : b < H0.size) (hbA : ¬ A b) (hi : i < Lx) (hL : Lx ≤ 2048) (hdg : decode cc pc = .ok (.iaload, 1)) (kk : px p l e R s m args below meth c nL E A H0 L f n k Q (pc + 1) lv (.int (xs i) :: st)) : px p l e R s m args below meth c nL E A H0 L f n k Q pc lv (.int (nI i) :: .ref b :: st) := fun H locs ls hH hl => va_sld hC.1 hC.2.1 hX hbl hbA hH.2.2 (nI_in hi (by omega)) hdg (by rw [nI_clamp (by omega)]; exact kk H locs ls hH hl)
theorem px_xlen (hC : px_C p s m args meth c cc own ws nL ret E A H0) {b Lx : Nat} {xs : Nat → Int32} (hX : va_X b Lx xs s H0) (hbl : b < H0.size) (hbA : ¬ A b) (hdg : decode cc pc = .ok (.arraylength, 1)) (kk : px p l e R s m args below meth c nL E A H0 L f n k Q (pc + 1) lv (.int (nI Lx) :: st)) : px p l e R s m args below meth c nL E A H0 L f n k Q pc lv (.ref b :: st) := fun H locs ls hH hl => va_slen hC.1 hC.2.1 hX hbl hbA hH.2.2 hdg (kk H locs ls hH hl)
theorem px_tab (hC : px_C p s m args meth c cc own ws nL ret E A H0) {dflt lo hi : Int} {offs : Array Int} {len tgt : Nat} {x : Int32} {off : Int} (hdg : decode cc pc = .ok (.tableswitch dflt lo hi offs, len)) (h1 : ¬ x.toInt < lo) (h2 : ¬ hi < x.toInt) (ho : offs[(x.toInt - lo).toNat]? = some off) (ht : (pc : Int) + off = (tgt : Int)) (kk : px p l e R s m args below meth c nL E A H0 L f n k Q tgt lv st) : px p l e R s m args below meth c nL E A H0 L f n k Q pc lv (.int x :: st) := fun H locs ls hH hl => lv_tableIn hC.1 hC.2.1 hdg h1 h2 ho ht (kk H locs ls hH hl)
theorem px_tabO (hC : px_C p s m args meth c cc own ws nL ret E A H0) {dflt lo hi : Int} {offs : Array Int} {len tgt : Nat} {x : Int32} (hdg : decode cc pc = .ok (.tableswitch dflt lo hi offs, len)) (h : x.toInt < lo ∨ hi < x.toInt) (ht : (pc : Int) + dflt = (tgt : Int)) (kk : px p l e R s m args below meth c nL E A H0 L f n k Q tgt lv st) : px p l e R s m args below meth c nL E A H0 L f n k Q pc lv (.int x :: st) := fun H locs ls hH hl => lv_tableOut hC.1 hC.2.1 hdg h ht (kk H locs ls hH hl)
end PXL
set_option maxRecDepth 20000 in
/-- the tables' words give the classes -/
theorem law_K {s : State} {args : Array Value} (hts : ∀ w ∈ lw_tbl, w.before args s = true) : ∃ E : px_E, px_K E s := by
  obtain ⟨c0, i0, k0⟩ := u_known (C := RX0) (T := TX0) (N := 10) hts inX0 (hts (.instantiable RX0 10) (by decide +kernel))
  obtain ⟨c1, i1, k1⟩ := u_known (C := RX2) (T := TX2) (N := 6) hts inX2 (hts (.instantiable RX2 6) (by decide +kernel))
  obtain ⟨c2, i2, k2⟩ := u_known (C := RX3) (T := TX3) (N := 7) hts inX3 (hts (.instantiable RX3 7) (by decide +kernel))
  obtain ⟨c3, i3, k3⟩ := u_known (C := RX4) (T := TX4) (N := 4) hts inX4 (hts (.instantiable RX4 4) (by decide +kernel))
  obtain ⟨c4, i4, k4⟩ := u_known (C := RX5) (T := TX5) (N := 7) hts inX5 (hts (.instantiable RX5 7) (by decide +kernel))
  obtain ⟨a0, y0, p0, f0, g0, j0⟩ := Cond.arrayClass_spec (hts (.arrayClass .int) (by decide +kernel))
  obtain ⟨a1, y1, p1, f1, g1, j1⟩ := Cond.arrayClass_spec (hts (.arrayClass .long) (by decide +kernel))
  have o2 := hts (.arrayOver (.object "RowReductionModel$Great")) (by decide +kernel)
  have o3 := hts (.arrayOver (.array .int)) (by decide +kernel)
  have o4 := hts (.arrayOver (.array .long)) (by decide +kernel)
  obtain ⟨p2, a2, y2, e2, -, g2, j2, f2⟩ := Cond.arrayOver_spec o2
  obtain ⟨p3, a3, y3, e3, -, g3, j3, f3⟩ := Stand.arrayOver_specB o3
  obtain ⟨p4, a4, y4, e4, -, g4, j4, f4⟩ := Stand.arrayOver_specB o4
  have q4 : p4 = a1 := Option.some.inj (e4.symm.trans f1)
  refine ⟨((fun c => match c with | 0 => c0 | 1 => c1 | 2 => c2 | 3 => c3 | _ => c4, fun c => match c with | 0 => i0 | 1 => i1 | 2 => i2 | 3 => i3 | _ => i4), fun c => match c with | 0 => a0 | 1 => a1 | 2 => a2 | 3 => a3 | _ => a4), ⟨fun c q hq => ?_, fun k q hq => ?_⟩, ⟨y4, g4, by rw [j4, q4]; rfl⟩, ⟨o2, o3, o4⟩, ?_⟩
  · match c, hq with
    | 0, hq => cases hq; exact k0
    | 1, hq => cases hq; exact k1
    | 2, hq => cases hq; exact k2
    | 3, hq => cases hq; exact k3
    | 4, hq => cases hq; exact k4
    | (n + 5), hq => cases hq
  · match k, hq with
    | 0, hq => cases hq; exact ⟨fun n z => ⟨fun k h => (by cases h), y0, g0, p0, j0⟩, f0⟩
    | 1, hq => cases hq; exact ⟨fun n z => ⟨fun k h => (by cases h), y1, g1, p1, j1⟩, f1⟩
    | 2, hq => cases hq; exact ⟨fun n z => ⟨fun k h => (by cases h), y2, g2, p2, j2⟩, ⟨y2, p2, g2, j2, e2, f2⟩⟩
    | 3, hq => cases hq; exact ⟨fun n z => ⟨fun k h => (by cases h), y3, g3, p3, j3⟩, f3⟩
    | 4, hq => cases hq; exact ⟨fun n z => ⟨fun k h => (by cases h), y4, g4, p4, j4⟩, f4⟩
    | (n + 5), hq => cases hq
  · exact ⟨va_tabs rfl rfl (hts _ (by decide +kernel)), va_tabs rfl rfl (hts _ (by decide +kernel)), va_tabs rfl rfl (hts _ (by decide +kernel)), va_tabs rfl rfl (hts _ (by decide +kernel)), va_tabs rfl rfl (hts _ (by decide +kernel))⟩
