
/-! ===== congruences ===== -/
def cg (m a b : Int) : Prop := ∃ k : Int, a = b + k * m
theorem cg_r (m a : Int) : cg m a a := ⟨0, by omega⟩
theorem cg_e {m a b : Int} (h : a = b) : cg m a b := ⟨0, by omega⟩
theorem cg_s {m a b : Int} (h : cg m a b) : cg m b a := by obtain ⟨k, h⟩ := h; exact ⟨-k, by rw [h]; grind⟩
theorem cg_t {m a b c : Int} (h : cg m a b) (h2 : cg m b c) : cg m a c := by obtain ⟨k, h⟩ := h; obtain ⟨j, h2⟩ := h2; exact ⟨k + j, by rw [h, h2]; grind⟩
theorem cg_a {m a b c d : Int} (h : cg m a b) (h2 : cg m c d) : cg m (a + c) (b + d) := by obtain ⟨k, h⟩ := h; obtain ⟨j, h2⟩ := h2; exact ⟨k + j, by rw [h, h2]; grind⟩
theorem cg_n {m a b : Int} (h : cg m a b) : cg m (-a) (-b) := by obtain ⟨k, h⟩ := h; exact ⟨-k, by rw [h]; grind⟩
theorem cg_m {m a b c d : Int} (h : cg m a b) (h2 : cg m c d) : cg m (a * c) (b * d) := by obtain ⟨k, h⟩ := h; obtain ⟨j, h2⟩ := h2; exact ⟨b * j + k * d + k * j * m, by rw [h, h2]; grind⟩
theorem cg_w {m n a b : Int} (h : cg (m * n) a b) : cg m a b := by obtain ⟨k, h⟩ := h; exact ⟨k * n, by rw [h]; grind⟩
theorem cg_p {B u w : Nat} {a b : Int} (h : u ≤ w) (hc : cg ((B ^ w : Nat) : Int) a b) : cg ((B ^ u : Nat) : Int) a b := by
  rw [show B ^ w = B ^ u * B ^ (w - u) from by rw [← Nat.pow_add]; congr 1; omega, Int.natCast_mul] at hc
  exact cg_w hc
theorem cg_odd {d : Int} (hd : d % 2 = 1) (N : Nat) : ∀ x : Int, cg ((2 ^ N : Nat) : Int) (d * x) 0 → cg ((2 ^ N : Nat) : Int) x 0 := by
  induction N with
  | zero => intro x _; exact ⟨x, by simp⟩
  | succ N ih =>
    intro x h
    obtain ⟨k, h⟩ := h
    have e : ((2 ^ (N + 1) : Nat) : Int) = 2 * ((2 ^ N : Nat) : Int) := by rw [Nat.pow_succ, Int.natCast_mul, Int.mul_comm]; rfl
    rw [e] at h ⊢
    have h2 : d * x % 2 = 0 := by rw [h]; rw [show (0 : Int) + k * (2 * ((2 ^ N : Nat) : Int)) = 2 * (k * ((2 ^ N : Nat) : Int)) from by grind]; omega
    have h3 : x % 2 = 0 := by
      rw [Int.mul_emod, hd] at h2
      omega
    obtain ⟨y, hy⟩ : ∃ y, x = 2 * y := ⟨x / 2, by omega⟩
    subst hy
    have h5 : 2 * (d * y) = 2 * (k * ((2 ^ N : Nat) : Int)) := by
      rw [show 2 * (d * y) = d * (2 * y) from by grind, h]
      grind
    obtain ⟨j, hj⟩ := ih y ⟨k, by omega⟩
    exact ⟨j, by rw [hj]; grind⟩
theorem cg_cancel {d a b : Int} (hd : d % 2 = 1) {N : Nat} (h : cg ((2 ^ N : Nat) : Int) (a * d) (d * b)) : cg ((2 ^ N : Nat) : Int) a b := by
  obtain ⟨k, h⟩ := h
  obtain ⟨j, hj⟩ := cg_odd hd N (a - b) ⟨k, by rw [Int.mul_sub, Int.mul_comm d a, h]; omega⟩
  exact ⟨j, by omega⟩
theorem pow_BB (w : Nat) : 4294967296 ^ w = 2 ^ (32 * w) := by rw [Nat.pow_mul]
/-! ===== 21 limbs as a whole number ===== -/
theorem vl_hi {x : Nat → Nat} {w : Nat} (hw : 1 ≤ w) (h : ∀ i, i < w → x i < 4294967296) : (2147483648 ≤ x (w - 1) → 4294967296 ^ w ≤ 2 * vl 4294967296 x w) ∧ (¬ 2147483648 ≤ x (w - 1) → 2 * vl 4294967296 x w < 4294967296 ^ w) := by
  obtain ⟨u, rfl⟩ : ∃ u, w = u + 1 := ⟨w - 1, by omega⟩
  have h1 := vl_lt (B := 4294967296) (x := x) (n := u) (fun i hi => h i (by omega))
  have e : vl 4294967296 x (u + 1) = vl 4294967296 x u + x u * 4294967296 ^ u := rfl
  rw [show u + 1 - 1 = u by omega, e, Nat.pow_succ]
  constructor
  · intro h2
    have h3 : 2147483648 * 4294967296 ^ u ≤ x u * 4294967296 ^ u := Nat.mul_le_mul_right _ h2
    omega
  · intro h2
    have h3 : x u * 4294967296 ^ u ≤ 2147483647 * 4294967296 ^ u := Nat.mul_le_mul_right _ (by omega)
    omega
theorem sg_cg {x : Nat → Nat} : cg ((4294967296 ^ 21 : Nat) : Int) (vl 4294967296 x 21) (sg x) := by
  unfold sg
  by_cases h : 2147483648 ≤ x 20
  · rw [if_pos h]; exact ⟨1, by omega⟩
  · rw [if_neg h]; exact cg_r _ _
theorem sg_rng {x : Nat → Nat} (hx : dg x) : - ((4294967296 ^ 21 : Nat) : Int) ≤ 2 * sg x ∧ 2 * sg x < ((4294967296 ^ 21 : Nat) : Int) := by
  have h1 := vl_hi (w := 21) (by decide) hx
  have h2 := vl_lt hx
  unfold sg
  by_cases h : 2147483648 ≤ x 20
  · rw [if_pos h]; have := h1.1 h; omega
  · rw [if_neg h]; have := h1.2 h; omega
theorem cg_uni {M a b : Int} (h : cg M a b) (ha : -M ≤ 2 * a ∧ 2 * a < M) (hb : -M < 2 * b ∧ 2 * b < M) : a = b := by
  obtain ⟨k, h⟩ := h
  rcases (show k = 0 ∨ 1 ≤ k ∨ k ≤ -1 by omega) with q | q | q
  · subst q; omega
  · have : M * 1 ≤ M * k := Int.mul_le_mul_of_nonneg_left q (by omega)
    rw [Int.mul_comm M k] at this
    omega
  · have : M * k ≤ M * (-1) := Int.mul_le_mul_of_nonneg_left q (by omega)
    rw [Int.mul_comm M k] at this
    omega
theorem sg_of {x : Nat → Nat} {v : Int} (hx : dg x) (h : cg ((4294967296 ^ 21 : Nat) : Int) (vl 4294967296 x 21) v) (hv : -((4294967296 ^ 21 : Nat) : Int) < 2 * v ∧ 2 * v < ((4294967296 ^ 21 : Nat) : Int)) : sg x = v := cg_uni (cg_t (cg_s sg_cg) h) (sg_rng hx) hv
theorem vl_low {x : Nat → Nat} {u w : Nat} (h : u ≤ w) : cg ((4294967296 ^ u : Nat) : Int) (vl 4294967296 x w) (vl 4294967296 x u) := by
  have e : vl 4294967296 x w = vl 4294967296 x u + 4294967296 ^ u * vl 4294967296 (fun i => x (u + i)) (w - u) := by rw [← vl_a, show u + (w - u) = w by omega]
  exact ⟨vl 4294967296 (fun i => x (u + i)) (w - u), by rw [e, Int.natCast_add, Int.natCast_mul, Int.mul_comm]⟩
theorem sg_low {x : Nat → Nat} {w : Nat} (hw : w ≤ 21) : cg ((4294967296 ^ w : Nat) : Int) (vl 4294967296 x w) (sg x) := cg_t (cg_s (vl_low hw)) (cg_p hw sg_cg)
theorem wx_dg {x : Nat → Nat} {w : Nat} (hx : dg x) : dg (wx x w) := by
  intro i hi
  unfold wx
  by_cases q : i < w
  · rw [if_pos q]; exact hx i hi
  · rw [if_neg q]
    by_cases q2 : 2147483648 ≤ x (w - 1)
    · rw [if_pos q2]; decide
    · rw [if_neg q2]; decide
theorem vl_max (n : Nat) : vl 4294967296 (fun _ => 4294967295) n + 1 = 4294967296 ^ n := by
  induction n with
  | zero => rfl
  | succ n ih =>
    show vl 4294967296 (fun _ => 4294967295) n + 4294967295 * 4294967296 ^ n + 1 = 4294967296 ^ (n + 1)
    rw [Nat.pow_succ]
    omega
theorem wx_sg {x : Nat → Nat} {w : Nat} {v : Int} (h1 : 1 ≤ w) (h2 : w ≤ 21) (hx : dg x) (h : cg ((4294967296 ^ w : Nat) : Int) (vl 4294967296 x w) v) (hv : -((4294967296 ^ w : Nat) : Int) < 2 * v ∧ 2 * v < ((4294967296 ^ w : Nat) : Int)) : sg (wx x w) = v := by
  have hxw : ∀ i, i < w → x i < 4294967296 := fun i hi => hx i (by omega)
  have hh := vl_hi h1 hxw
  have hl := vl_lt hxw
  have hm : 4294967296 ^ w ≤ 4294967296 ^ 21 := Nat.pow_le_pow_right (by decide) h2
  have e : vl 4294967296 (wx x w) 21 = vl 4294967296 x w + 4294967296 ^ w * vl 4294967296 (fun i => wx x w (w + i)) (21 - w) := by
    rw [← vl_c (x := wx x w) (y := x) (n := w) (fun i hi => by unfold wx; rw [if_pos hi]), ← vl_a, show w + (21 - w) = 21 by omega]
  apply sg_of (wx_dg hx) ?_ (by omega)
  by_cases q : 2147483648 ≤ x (w - 1)
  · have q1 := hh.1 q
    have e2 : vl 4294967296 (fun i => wx x w (w + i)) (21 - w) + 1 = 4294967296 ^ (21 - w) := by
      rw [← vl_max (21 - w), vl_c (y := fun _ => 4294967295) (fun i _ => by show wx x w (w + i) = _; unfold wx; rw [if_neg (by omega), if_pos q])]
    have e3 : 4294967296 ^ w * 4294967296 ^ (21 - w) = 4294967296 ^ 21 := by rw [← Nat.pow_add]; congr 1; omega
    have e4 : 4294967296 ^ w * (vl 4294967296 (fun i => wx x w (w + i)) (21 - w) + 1) = 4294967296 ^ 21 := by rw [e2, e3]
    rw [Nat.mul_add, Nat.mul_one] at e4
    have hv2 : (vl 4294967296 x w : Int) - ((4294967296 ^ w : Nat) : Int) = v := cg_uni (M := ((4294967296 ^ w : Nat) : Int)) (cg_t ⟨-1, by omega⟩ h) (by omega) hv
    exact ⟨1, by rw [e]; omega⟩
  · have q1 := hh.2 q
    have e2 : vl 4294967296 (fun i => wx x w (w + i)) (21 - w) = 0 := by
      rw [vl_c (y := fun _ => 0) (fun i _ => by show wx x w (w + i) = _; unfold wx; rw [if_neg (by omega), if_neg q]), vl_0]
    have hv2 : (vl 4294967296 x w : Int) = v := cg_uni (M := ((4294967296 ^ w : Nat) : Int)) h (by omega) hv
    rw [e, e2, Nat.mul_zero, Nat.add_zero]
    exact cg_e hv2
theorem i32_n (v : Int32) : v.toInt = if 2147483648 ≤ v.toBitVec.toNat then (v.toBitVec.toNat : Int) - 4294967296 else v.toBitVec.toNat := by
  show v.toBitVec.toInt = _
  rw [BitVec.toInt_eq_toNat_cond]
  have := v.toBitVec.isLt
  by_cases q : 2147483648 ≤ v.toBitVec.toNat
  · rw [if_pos q, if_neg (by omega)]; rfl
  · rw [if_neg q, if_pos (by omega)]
theorem sx_wx (v : Int32) : sx v = wx (fun _ => v.toBitVec.toNat) 1 := by
  funext i
  have h := i32_n v
  have hb := v.toBitVec.isLt
  by_cases q : i = 0
  · subst q
    show un _ 0 _ 0 = if 0 < 1 then v.toBitVec.toNat else _
    rw [un_s, if_pos (by decide)]
  · show un (fun _ => if v < 0 then 4294967295 else 0) 0 _ i = if i < 1 then v.toBitVec.toNat else if 2147483648 ≤ v.toBitVec.toNat then 4294967295 else 0
    rw [un_n _ _ q, if_neg (show ¬ i < 1 by omega)]
    by_cases q2 : v < 0
    · have h1 : v.toInt < 0 := Int32.lt_iff_toInt_lt.mp q2
      rw [if_pos q2]
      by_cases q3 : 2147483648 ≤ v.toBitVec.toNat
      · rw [if_pos q3]
      · rw [if_neg q3] at h; omega
    · have h1 : ¬ v.toInt < 0 := fun h2 => q2 (Int32.lt_iff_toInt_lt.mpr h2)
      rw [if_neg q2]
      by_cases q3 : 2147483648 ≤ v.toBitVec.toNat
      · rw [if_pos q3] at h; omega
      · rw [if_neg q3]
theorem sx_dg (v : Int32) : dg (sx v) := by rw [sx_wx]; exact wx_dg (fun _ _ => v.toBitVec.isLt)
theorem sx_sg (v : Int32) : sg (sx v) = v.toInt := by
  have h := i32_n v
  have hb := v.toBitVec.isLt
  by_cases q : v.toInt = -2147483648
  · have e : v = -2147483648 := Int32.toInt_inj.mp q
    subst e
    decide +kernel
  rw [sx_wx]
  have e : vl 4294967296 (fun _ => v.toBitVec.toNat) 1 = v.toBitVec.toNat := by show 0 + v.toBitVec.toNat * 4294967296 ^ 0 = _; omega
  refine wx_sg (Nat.le_refl 1) (by decide) (fun _ _ => hb) ?_ ?_
  · rw [e, h]
    by_cases q : 2147483648 ≤ v.toBitVec.toNat
    · rw [if_pos q]; exact ⟨1, by simp⟩
    · rw [if_neg q]; exact cg_r _ _
  · rw [show ((4294967296 ^ 1 : Nat) : Int) = 4294967296 from rfl]
    by_cases q2 : 2147483648 ≤ v.toBitVec.toNat
    · rw [if_pos q2] at h; omega
    · rw [if_neg q2] at h; omega
/-- what a cell becomes: the numbers modulo a power of two, shifted, divided, widened -/
theorem rp_shift {Z d' v : Int} {t ww Y2 Y3 : Nat} (hZ : Z = ((2 ^ t : Nat) : Int) * d' * v) (ht : t ≤ 32 * ww) (h : cg ((4294967296 ^ ww : Nat) : Int) Y2 Z) (h3 : Y3 = Y2 / 2 ^ t) : cg ((2 ^ (32 * ww - t) : Nat) : Int) Y3 (d' * v) := by
  obtain ⟨k, h⟩ := h
  have e : 4294967296 ^ ww = 2 ^ t * 2 ^ (32 * ww - t) := by rw [pow_BB, ← Nat.pow_add]; congr 1; omega
  have hp : (0 : Int) < ((2 ^ t : Nat) : Int) := by have := Nat.pow_pos (n := t) (show 0 < 2 by decide); omega
  rw [e, Int.natCast_mul, hZ] at h
  rw [h3, Int.natCast_ediv]
  generalize ((2 ^ t : Nat) : Int) = T at h hp ⊢
  generalize ((2 ^ (32 * ww - t) : Nat) : Int) = R at h ⊢
  have h4 : (Y2 : Int) = T * (d' * v + k * R) := by rw [h]; grind
  exact ⟨k, by rw [h4, Int.mul_ediv_cancel_left _ (by omega)]⟩
