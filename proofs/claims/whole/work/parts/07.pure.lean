
/-! ===== digits, shifts, odd parts ===== -/
theorem vl_dig (B Y n : Nat) : vl B (fun i => Y / B ^ i % B) n = Y % B ^ n := by
  induction n with
  | zero => simp [vl, Nat.mod_one]
  | succ n ih =>
    show vl B (fun i => Y / B ^ i % B) n + Y / B ^ n % B * B ^ n = Y % B ^ (n + 1)
    rw [ih, Nat.mod_pow_succ, Nat.mul_comm (B ^ n)]
theorem vl_div {B : Nat} {x : Nat → Nat} {w j : Nat} (h : ∀ i, i < w → x i < B) (hj : j ≤ w) : vl B x w / B ^ j = vl B (fun i => x (j + i)) (w - j) := by
  have hB : 0 < B ^ j := by
    rcases Nat.eq_zero_or_pos B with q | q
    · rcases Nat.eq_zero_or_pos j with q2 | q2
      · subst q2; simp
      · have := h 0 (by omega); omega
    · exact Nat.pow_pos q
  have h1 : vl B x w = vl B x j + B ^ j * vl B (fun i => x (j + i)) (w - j) := by
    rw [← vl_a, show j + (w - j) = w by omega]
  have h2 := vl_lt (B := B) (x := x) (n := j) (fun i hi => h i (by omega))
  rw [h1, Nat.add_mul_div_left _ _ hB, Nat.div_eq_of_lt h2, Nat.zero_add]
theorem vl_s1 (B : Nat) (x : Nat → Nat) (n : Nat) : vl B x (n + 1) = x 0 + B * vl B (fun i => x (1 + i)) n := by
  rw [show n + 1 = 1 + n by omega, vl_a]
  simp [vl]
theorem vl_digit {B : Nat} {x : Nat → Nat} {w j : Nat} (h : ∀ i, i < w → x i < B) : vl B x w / B ^ j % B = if j < w then x j else 0 := by
  by_cases hj : j < w
  · rw [if_pos hj, vl_div h (by omega), show w - j = (w - j - 1) + 1 by omega, vl_s1, Nat.add_mul_mod_self_left]
    exact Nat.mod_eq_of_lt (h j hj)
  · rw [if_neg hj]
    have h1 := vl_lt h
    rcases Nat.eq_zero_or_pos B with q | q
    · subst q
      cases w with
      | zero => simp [vl]
      | succ w => have := h 0 (by omega); omega
    · have h2 : B ^ w ≤ B ^ j := Nat.pow_le_pow_right q (by omega)
      rw [Nat.div_eq_of_lt (by omega), Nat.zero_mod]
theorem sh_dig {Z lo hi part : Nat} (h : part < 32) (h1 : Z % 4294967296 = lo) (h2 : Z / 4294967296 % 4294967296 = hi) : Z / 2 ^ part % 4294967296 = (hi * 4294967296 + lo) / 2 ^ part % 4294967296 := by
  have e : 2 ^ part * 2 ^ (32 - part) = 4294967296 := by rw [← Nat.pow_add, show part + (32 - part) = 32 by omega]
  have hp : 0 < 2 ^ part := Nat.pow_pos (by decide)
  generalize 2 ^ part = M at e hp ⊢
  generalize 2 ^ (32 - part) = K at e
  have hz : Z = (hi * 4294967296 + lo) + M * (4294967296 * (K * (Z / 4294967296 / 4294967296))) := by
    have a1 : Z = 4294967296 * (Z / 4294967296) + Z % 4294967296 := (Nat.div_add_mod Z 4294967296).symm
    have a2 : Z / 4294967296 = 4294967296 * (Z / 4294967296 / 4294967296) + Z / 4294967296 % 4294967296 := (Nat.div_add_mod (Z / 4294967296) 4294967296).symm
    have a3 : M * (4294967296 * (K * (Z / 4294967296 / 4294967296))) = (M * K) * (4294967296 * (Z / 4294967296 / 4294967296)) := by
      rw [Nat.mul_assoc M K, Nat.mul_left_comm K]
    rw [a3, e]
    omega
  rw [show Z / M = ((hi * 4294967296 + lo) + M * (4294967296 * (K * (Z / 4294967296 / 4294967296)))) / M from by rw [← hz], Nat.add_mul_div_left _ _ hp, Nat.add_mul_mod_self_left]
/-- the digits of a number shifted right -/
theorem sh_row {x y : Nat → Nat} {w q part bits : Nat} (hx : ∀ i, i < w → x i < 4294967296) (hp : part < 32) (hb : bits = q * 32 + part) (hy : ∀ i, i < w → y i = ((if i + q + 1 < w then x (i + q + 1) else 0) * 4294967296 + (if i + q < w then x (i + q) else 0)) / 2 ^ part % 4294967296) : vl 4294967296 y w = vl 4294967296 x w / 2 ^ bits := by
  have h1 : vl 4294967296 y w = vl 4294967296 (fun i => (vl 4294967296 x w / 2 ^ bits) / 4294967296 ^ i % 4294967296) w := by
    apply vl_c
    intro i hi
    rw [hy i hi]
    have e1 : vl 4294967296 x w / 2 ^ bits / 4294967296 ^ i = vl 4294967296 x w / 4294967296 ^ (i + q) / 2 ^ part := by
      rw [Nat.div_div_eq_div_mul, Nat.div_div_eq_div_mul, hb]
      congr 1
      rw [Nat.pow_add, Nat.pow_add, show q * 32 = 32 * q by omega, Nat.pow_mul, show (2 : Nat) ^ 32 = 4294967296 from rfl]
      rw [Nat.mul_assoc, Nat.mul_comm (2 ^ part), ← Nat.mul_assoc, Nat.mul_comm (4294967296 ^ q)]
    rw [e1]
    symm
    apply sh_dig hp
    · rw [vl_digit hx]
    · rw [Nat.div_div_eq_div_mul, ← Nat.pow_succ, vl_digit hx]
  have h2 := vl_lt hx
  rw [h1, vl_dig]
  exact Nat.mod_eq_of_lt (Nat.lt_of_le_of_lt (Nat.div_le_self _ _) h2)
theorem od_of (n : Nat) (h : n ≠ 0) : ∃ t o, n = 2 ^ t * (2 * o + 1) := by
  induction n using Nat.strongRecOn with
  | _ n ih =>
    by_cases q : n % 2 = 1
    · exact ⟨0, n / 2, by rw [Nat.pow_zero]; omega⟩
    · obtain ⟨t, o, e⟩ := ih (n / 2) (by omega) (by omega)
      refine ⟨t + 1, o, ?_⟩
      rw [Nat.pow_succ, Nat.mul_comm (2 ^ t) 2, Nat.mul_assoc, ← e]
      omega
theorem od_lt {n t o b : Nat} (h : n = 2 ^ t * (2 * o + 1)) (hb : n < 2 ^ b) : t < b := by
  have h1 : 2 ^ t * 1 ≤ n := by rw [h]; exact Nat.mul_le_mul_left _ (by omega)
  exact (Nat.pow_lt_pow_iff_right (by decide : 1 < 2)).mp (by omega)
theorem tz_bits {n t o : Nat} (h : n = 2 ^ t * (2 * o + 1)) (hn : n < 2 ^ 32) : (lN n ^^^ (-1)) &&& (lN n - lN 1) = lN (2 ^ t - 1) := by
  have ht : t < 32 := od_lt h hn
  have hp : 0 < 2 ^ t := Nat.pow_pos (by decide)
  have hn0 : 0 < n := by rw [h]; exact Nat.mul_pos hp (by omega)
  have e1 : n = 2 ^ (t + 1) * o + 2 ^ t := by rw [h, Nat.pow_succ]; grind
  have e2 : n - 1 = 2 ^ (t + 1) * o + (2 ^ t - 1) := by omega
  have l1 : 2 ^ t < 2 ^ (t + 1) := by rw [Nat.pow_succ]; omega
  rw [lN_sub (by omega : 1 ≤ n)]
  apply wb_inj
  rw [Int64.toBitVec_and, Int64.toBitVec_xor, wb_tb, wb_tb, wb_tb]
  apply BitVec.eq_of_getLsbD_eq
  intro i hi
  rw [BitVec.getLsbD_and, BitVec.getLsbD_xor, BitVec.getLsbD_ofNat, BitVec.getLsbD_ofNat, BitVec.getLsbD_ofNat, show ((-1 : Int64)).toBitVec = BitVec.allOnes 64 from by decide, BitVec.getLsbD_allOnes, e2, Nat.testBit_two_pow_sub_one]
  rw [Nat.testBit_two_pow_mul_add o (by omega : 2 ^ t - 1 < 2 ^ (t + 1)) i]
  have e3 : n.testBit i = if i < t + 1 then (2 ^ t).testBit i else o.testBit (i - (t + 1)) := by
    rw [show n.testBit i = (2 ^ (t + 1) * o + 2 ^ t).testBit i from by rw [← e1], Nat.testBit_two_pow_mul_add o l1 i]
  rw [e3, Nat.testBit_two_pow_sub_one, Nat.testBit_two_pow]
  simp only [hi, decide_true, Bool.true_and, Bool.xor_true]
  by_cases q : i < t
  · simp [q, show i < t + 1 by omega, show ¬ t = i by omega]
  · by_cases q2 : i = t
    · subst q2; simp
    · simp [show ¬ i < t + 1 by omega, q]
theorem tz_val {x : Nat → Nat} {i t o : Nat} (h0 : vl 4294967296 x i = 0) (hi : i < 21) (h : x i = 2 ^ t * (2 * o + 1)) (hn : x i < 4294967296) : i * 32 + t < 672 ∧ ∃ o', vl 4294967296 x 21 = 2 ^ (i * 32 + t) * (2 * o' + 1) := by
  have ht : t < 32 := od_lt h hn
  refine ⟨by omega, o + 2 ^ (31 - t) * vl 4294967296 (fun j => x (i + (1 + j))) (20 - i), ?_⟩
  have e1 : vl 4294967296 x 21 = vl 4294967296 x i + 4294967296 ^ i * vl 4294967296 (fun j => x (i + j)) (21 - i) := by rw [← vl_a, show i + (21 - i) = 21 by omega]
  rw [e1, h0, show 21 - i = (20 - i) + 1 by omega, vl_s1, Nat.pow_add, show i * 32 = 32 * i by omega, Nat.pow_mul, show (2 : Nat) ^ 32 = 4294967296 from rfl]
  have e2 : x (i + 0) = 2 ^ t * (2 * o + 1) := h
  have e3 : 2 ^ t * (2 * 2 ^ (31 - t)) = 4294967296 := by rw [Nat.mul_comm 2, ← Nat.pow_succ, ← Nat.pow_add, show t + (31 - t).succ = 32 by omega]
  rw [e2]
  generalize vl 4294967296 (fun j => x (i + (1 + j))) (20 - i) = V
  have e4 : 2 ^ t * (2 * (o + 2 ^ (31 - t) * V) + 1) = 2 ^ t * (2 * o + 1) + 2 ^ t * (2 * 2 ^ (31 - t)) * V := by grind
  rw [Nat.mul_assoc, e4, e3]
  omega
/-- the inverse of an odd number, a turn more -/
theorem iv_step {o i M : Int} {i' : Int} (h : ∃ k, o * i = 1 + k * M) (hi : ∃ k, i' = i * (2 - o * i) + k * (M * M)) : ∃ k, o * i' = 1 + k * (M * M) := by
  obtain ⟨a, ha⟩ := h
  obtain ⟨b, hb⟩ := hi
  refine ⟨o * b - a * a, ?_⟩
  have : o * i' = (o * i) * (2 - o * i) + o * b * (M * M) := by rw [hb]; grind
  rw [this, ha]
  grind
theorem iv_low {o i : Int} {M N : Int} (h : ∃ k, i = o + k * (M * N)) : ∃ k, i = o + k * M := by
  obtain ⟨k, hk⟩ := h
  exact ⟨k * N, by rw [hk]; grind⟩
theorem iv_8 {o : Nat} (h : o % 2 = 1) : ∃ k : Int, (o : Int) * o = 1 + k * 8 := by
  have h1 : ∃ a, o = 2 * a + 1 := ⟨o / 2, by omega⟩
  obtain ⟨a, rfl⟩ := h1
  have h2 : ∃ b : Int, (a : Int) * (a + 1) = 2 * b := by
    rcases Nat.mod_two_eq_zero_or_one a with q | q
    · exact ⟨(a / 2 : Nat) * (a + 1), by have : (a : Int) = 2 * (a / 2 : Nat) := by omega
                                         grind⟩
    · exact ⟨a * ((a + 1) / 2 : Nat), by have : (a : Int) + 1 = 2 * ((a + 1) / 2 : Nat) := by omega
                                         grind⟩
  obtain ⟨b, hb⟩ := h2
  exact ⟨b, by push_cast; grind⟩
theorem vl_sp (B : Nat) (x : Nat → Nat) {n i : Nat} (h : i < n) : vl B x n = vl B x i + B ^ i * (x i + B * vl B (fun j => x (i + (1 + j))) (n - i - 1)) := by
  rw [show n = i + ((n - i - 1) + 1) by omega, vl_a, vl_s1]
  rw [show i + (n - i - 1 + 1) - i - 1 = n - i - 1 by omega]
  rfl
/-- the limb that a digit of the quotient clears -/
theorem dv_zero {B : Nat} {y y' d : Nat → Nat} {w i g k e : Nat} (hi : i < w) (hB : 0 < B) (hk : ∀ j, j < i → y' j = y j) (hy : y' i < B) (hs : vl B y' w + g * B ^ i * vl B d (w - i) = vl B y w + k * B ^ w) (hg : g * d 0 = y i + B * e) : y' i = 0 := by
  have hp : 0 < B ^ i := Nat.pow_pos hB
  rw [vl_sp B y' hi, vl_sp B y hi, vl_c hk, show w - i = (w - i - 1) + 1 by omega, vl_s1, show B ^ w = B ^ i * (B * B ^ (w - i - 1)) from by rw [← Nat.pow_succ', ← Nat.pow_add]; congr 1; omega] at hs
  generalize vl B y i = V at hs
  generalize vl B (fun j => y' (i + (1 + j))) (w - i - 1 + 1 - 1) = u' at hs
  generalize vl B (fun j => y (i + (1 + j))) (w - i - 1 + 1 - 1) = u at hs
  generalize vl B (fun j => d (1 + j)) (w - i - 1) = v at hs
  generalize B ^ (w - i - 1) = T at hs
  have h1 : B ^ i * (y' i + B * (u' + e + g * v)) = B ^ i * (B * (u + k * T)) := by
    have h2 : B ^ i * (y' i + B * u') + g * B ^ i * (d 0 + B * v) = B ^ i * (y i + B * u) + k * (B ^ i * (B * T)) := by omega
    have h3 : g * B ^ i * (d 0 + B * v) = B ^ i * (g * d 0) + B ^ i * (B * (g * v)) := by grind
    rw [h3, hg] at h2
    grind
  have h4 := Nat.eq_of_mul_eq_mul_left hp h1
  have h5 : (y' i + B * (u' + e + g * v)) % B = 0 := by rw [h4, Nat.mul_mod_right]
  rw [Nat.add_mul_mod_self_left, Nat.mod_eq_of_lt hy] at h5
  exact h5
theorem dv_step {X V D Dl Yw Y' Bw g dgt r b k : Int} (h0 : X = V * D + (Yw - V) + k * Bw) (hs : Y' + g * Dl = Yw + b * Bw) (hD : g * D = g * Dl + dgt * r * Bw) : X = (V + g) * D + ((Y' + g) - (V + g)) + (k - dgt * r - b) * Bw := by
  grind
