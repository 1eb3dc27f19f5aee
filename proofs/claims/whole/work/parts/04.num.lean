/-! ===== lN n to 2^64: shifts, and, or, masks, one bit ===== -/
theorem wb_tb (n : Nat) : (lN n).toBitVec = BitVec.ofNat 64 n := rfl
theorem wb_inj {a b : Int64} (h : a.toBitVec = b.toBitVec) : a = b := Int64.toBitVec_inj.mp h
theorem wb_tn {n : Nat} (h : n < 2 ^ 64) : (lN n).toBitVec.toNat = n := by rw [wb_tb, BitVec.toNat_ofNat, Nat.mod_eq_of_lt h]
theorem wb_of (x : Int64) : ∃ n, n < 2 ^ 64 ∧ x = lN n := ⟨x.toBitVec.toNat, x.toBitVec.isLt, wb_inj (by rw [wb_tb]; simp)⟩
theorem wb_of32 (x : Int32) : ∃ n, n < 2 ^ 32 ∧ x = nI n := ⟨x.toBitVec.toNat, x.toBitVec.isLt, Int32.toBitVec_inj.mp (by show _ = BitVec.ofNat 32 _; simp)⟩
theorem wb_c : ∀ k, k < 64 → ((nI k).toInt64 &&& 63) = lN k := by decide +kernel
theorem wb_cu : ∀ k, k < 64 → ((nI k).toInt64.toUInt64 &&& Int64.toUInt64 63) = UInt64.ofNat k := by decide +kernel
theorem wb_sm : ∀ k, k < 64 → (BitVec.ofNat 64 k).smod 64 = BitVec.ofNat 64 k := by decide +kernel
theorem wb_pw {a b : Nat} (h : a ≤ b) : 2 ^ b = 2 ^ a * 2 ^ (b - a) := by rw [← Nat.pow_add]; congr 1; omega
theorem wb_lt2 {a b : Nat} (h : a < b) : 2 ^ a < 2 ^ b := Nat.pow_lt_pow_right (by decide) h
theorem wb_mod (n : Nat) : lN n = lN (n % 2 ^ 64) := wb_inj (by rw [wb_tb, wb_tb]; apply BitVec.eq_of_toNat_eq; rw [BitVec.toNat_ofNat, BitVec.toNat_ofNat, Nat.mod_mod])
theorem wb_shr {n k : Nat} (hn : n < 2 ^ 64) (hk : k < 64) : ((lN n).toUInt64 >>> ((nI k).toInt64.toUInt64 &&& Int64.toUInt64 63)).toInt64 = lN (n / 2 ^ k) := by
  rw [wb_cu k hk]
  apply wb_inj
  apply BitVec.eq_of_toNat_eq
  show ((lN n).toUInt64 >>> UInt64.ofNat k).toNat = (BitVec.ofNat 64 _).toNat
  have h1 : (UInt64.ofNat k).toNat = k := by
    show (BitVec.ofNat 64 k).toNat = k
    rw [BitVec.toNat_ofNat, Nat.mod_eq_of_lt (by omega)]
  have h2 : (lN n).toUInt64.toNat = n := wb_tn hn
  rw [UInt64.toNat_shiftRight, h1, h2, Nat.mod_eq_of_lt hk, Nat.shiftRight_eq_div_pow, BitVec.toNat_ofNat, Nat.mod_eq_of_lt (Nat.lt_of_le_of_lt (Nat.div_le_self _ _) hn)]
theorem wb_shl (n : Nat) {k : Nat} (hk : k < 64) : lN n <<< ((nI k).toInt64 &&& 63) = lN (n * 2 ^ k) := by
  rw [wb_c k hk]
  apply wb_inj
  rw [Int64.toBitVec_shiftLeft, wb_tb, wb_tb, wb_tb, wb_sm k hk]
  apply BitVec.eq_of_toNat_eq
  rw [BitVec.shiftLeft_eq', BitVec.toNat_shiftLeft, BitVec.toNat_ofNat, BitVec.toNat_ofNat, BitVec.toNat_ofNat, Nat.mod_eq_of_lt (show k < 2 ^ 64 by omega), Nat.shiftLeft_eq, Nat.mul_mod, Nat.mod_mod, ← Nat.mul_mod]
theorem wb_and {a b : Nat} (ha : a < 2 ^ 64) (hb : b < 2 ^ 64) : lN a &&& lN b = lN (a &&& b) := by
  apply wb_inj
  rw [Int64.toBitVec_and, wb_tb, wb_tb, wb_tb]
  apply BitVec.eq_of_toNat_eq
  rw [BitVec.toNat_and, BitVec.toNat_ofNat, BitVec.toNat_ofNat, BitVec.toNat_ofNat, Nat.mod_eq_of_lt ha, Nat.mod_eq_of_lt hb, Nat.mod_eq_of_lt (Nat.and_lt_two_pow _ hb)]
theorem wb_or {a b : Nat} (ha : a < 2 ^ 64) (hb : b < 2 ^ 64) : lN a ||| lN b = lN (a ||| b) := by
  apply wb_inj
  rw [Int64.toBitVec_or, wb_tb, wb_tb, wb_tb]
  apply BitVec.eq_of_toNat_eq
  rw [BitVec.toNat_or, BitVec.toNat_ofNat, BitVec.toNat_ofNat, BitVec.toNat_ofNat, Nat.mod_eq_of_lt ha, Nat.mod_eq_of_lt hb, Nat.mod_eq_of_lt (Nat.or_lt_two_pow ha hb)]
theorem wb_mask {n k : Nat} (hn : n < 2 ^ 64) (hk : k < 64) : lN n &&& lN (2 ^ k - 1) = lN (n % 2 ^ k) := by
  rw [wb_and hn (by have := wb_lt2 hk; omega), Nat.and_two_pow_sub_one_eq_mod]
theorem wb_a1 {n : Nat} (hn : n < 2 ^ 64) : lN n &&& 1 = lN (n % 2) := wb_mask (k := 1) hn (by decide)
theorem wb_bit {n k : Nat} (hn : n < 2 ^ 64) (hk : k < 64) : ((lN n).toUInt64 >>> ((nI k).toInt64.toUInt64 &&& Int64.toUInt64 63)).toInt64 &&& 1 = lN (n / 2 ^ k % 2) := by
  rw [wb_shr hn hk, wb_a1 (Nat.lt_of_le_of_lt (Nat.div_le_self _ _) hn)]
theorem wb_xor {q k : Nat} (hk : k < 63) (h : 2 ^ k ≤ q) (h2 : q < 2 ^ (k + 1)) : lN q ^^^ lN (2 ^ k) = lN (q - 2 ^ k) := by
  obtain ⟨r, rfl⟩ : ∃ r, q = 2 ^ k + r := ⟨q - 2 ^ k, by omega⟩
  have hr : r < 2 ^ k := by rw [Nat.pow_succ] at h2; omega
  have hx : (2 ^ k + r) ^^^ 2 ^ k = r := by
    apply Nat.eq_of_testBit_eq
    intro i
    rw [Nat.testBit_xor, Nat.testBit_two_pow]
    rcases Nat.lt_trichotomy i k with h | h | h
    · rw [Nat.testBit_two_pow_add_gt h]
      simp [show ¬ k = i by omega]
    · subst h
      rw [Nat.testBit_two_pow_add_eq]
      simp
    · have a1 : 2 ^ (k + 1) ≤ 2 ^ i := Nat.pow_le_pow_right (by decide) h
      rw [Nat.testBit_lt_two_pow (show 2 ^ k + r < 2 ^ i by omega), Nat.testBit_lt_two_pow (show r < 2 ^ i by omega)]
      simp [show ¬ k = i by omega]
  have b1 := wb_lt2 (show k + 1 < 64 by omega)
  have b2 := wb_lt2 (show k < 64 by omega)
  apply wb_inj
  rw [Int64.toBitVec_xor, wb_tb, wb_tb, wb_tb]
  apply BitVec.eq_of_toNat_eq
  rw [BitVec.toNat_xor, BitVec.toNat_ofNat, BitVec.toNat_ofNat, BitVec.toNat_ofNat, Nat.mod_eq_of_lt (by omega : 2 ^ k + r < 2 ^ 64), Nat.mod_eq_of_lt b2, hx, Nat.add_sub_cancel_left, Nat.mod_eq_of_lt (by omega)]
/-! ===== lN: masks, 'or' of parts that don't overlap is a sum ===== -/
theorem u_tn {n : Nat} (h : n < 2 ^ 64) : (UInt64.ofNat n).toNat = n := Nat.mod_eq_of_lt h
theorem g_and {a b c : Nat} (ha : a < 2 ^ 64) (hb : b < 2 ^ 64) (hc : a &&& b = c) : lN a &&& lN b = lN c := by
  subst hc
  have h : UInt64.ofNat a &&& UInt64.ofNat b = UInt64.ofNat (a &&& b) := UInt64.toNat_inj.mp (by rw [UInt64.toNat_and, u_tn ha, u_tn hb, u_tn (Nat.and_lt_two_pow a hb)])
  have h2 := congrArg UInt64.toInt64 h
  exact h2
theorem g_and1 {a : Nat} (ha : a < 2 ^ 64) : lN a &&& 1 = lN (a % 2) := g_and (b := 1) ha (by decide) (Nat.and_two_pow_sub_one_eq_mod a 1)
theorem g_mask {a s p : Nat} (hp : 2 ^ s = p) (hs : s < 64) (ha : a < 2 ^ 64) : lN a &&& lN (p - 1) = lN (a % p) := by
  subst hp
  have := Nat.pow_lt_pow_right (show 1 < 2 by decide) hs
  exact g_and ha (by omega) (Nat.and_two_pow_sub_one_eq_mod a s)
theorem g_or {k p a b : Nat} (hp : 2 ^ k = p) (ha : a < p) (h : b * p + a < 2 ^ 64) : lN (b * p) ||| lN a = lN (b * p + a) := by
  subst hp
  have h1 : b * 2 ^ k ||| a = b * 2 ^ k + a := by rw [← Nat.shiftLeft_eq, Nat.shiftLeft_add_eq_or_of_lt ha]
  have h3 : UInt64.ofNat (b * 2 ^ k) ||| UInt64.ofNat a = UInt64.ofNat (b * 2 ^ k + a) := UInt64.toNat_inj.mp (by rw [UInt64.toNat_or, u_tn (by omega), u_tn (by omega), u_tn h, h1])
  have h2 := congrArg UInt64.toInt64 h3
  exact h2
theorem g_or' {k p a b : Nat} (hp : 2 ^ k = p) (ha : a < p) (h : a + b * p < 2 ^ 64) : lN a ||| lN (b * p) = lN (a + b * p) := by
  rw [Int64.or_comm, g_or hp ha (by omega), Nat.add_comm]
theorem g_ushr {a k p : Nat} {y : UInt64} (hy : y = UInt64.ofNat k) (hk : k < 64) (hp : 2 ^ k = p) (ha : a < 2 ^ 64) : ((lN a).toUInt64 >>> y).toInt64 = lN (a / p) := by
  subst hy hp
  have h : UInt64.ofNat a >>> UInt64.ofNat k = UInt64.ofNat (a / 2 ^ k) := UInt64.toNat_inj.mp (by rw [UInt64.toNat_shiftRight, u_tn ha, u_tn (by omega), u_tn (Nat.lt_of_le_of_lt (Nat.div_le_self _ _) ha), Nat.mod_eq_of_lt hk, Nat.shiftRight_eq_div_pow])
  have h2 := congrArg UInt64.toInt64 h
  exact h2
theorem g_shl {a k p : Nat} {y : Int64} (hy : y.toBitVec.smod 64 = BitVec.ofNat 64 k) (hk : k < 64) (hp : 2 ^ k = p) (ha : a < 2 ^ 64) : lN a <<< y = lN (a * p) := by
  subst hp
  apply Int64.toBitVec_inj.mp
  rw [Int64.toBitVec_shiftLeft, hy]
  apply BitVec.eq_of_toNat_eq
  have hb : (lN a).toBitVec.toNat = a := Nat.mod_eq_of_lt ha
  have hk' : (BitVec.ofNat 64 k).toNat = k := Nat.mod_eq_of_lt (by omega)
  have h : ((lN a).toBitVec <<< BitVec.ofNat 64 k).toNat = (a * 2 ^ k) % 2 ^ 64 := by simp only [BitVec.shiftLeft_eq', BitVec.toNat_shiftLeft, hb, hk', Nat.shiftLeft_eq]
  exact h
/-! ===== numbers as rows of digits ===== -/
def vl (B : Nat) (x : Nat → Nat) : Nat → Nat
  | 0 => 0
  | n + 1 => vl B x n + x n * B ^ n
def un (x : Nat → Nat) (j z : Nat) : Nat → Nat := fun i => if i = j then z else x i
theorem un_s (x : Nat → Nat) (j z : Nat) : un x j z j = z := by simp [un]
theorem un_n (x : Nat → Nat) {i j : Nat} (z : Nat) (h : i ≠ j) : un x j z i = x i := by simp [un, h]
def lw (x : Nat → Nat) : Nat → Int64 := fun i => lN (x i)
def iw (x : Nat → Nat) : Nat → Int32 := fun i => nI (x i)
theorem lw_up (x : Nat → Nat) (j z : Nat) : vp_updL (lw x) j (lN z) = lw (un x j z) := by
  funext i
  by_cases h : i = j <;> simp [vp_updL, lw, un, h]
theorem iw_up (x : Nat → Nat) (j z : Nat) : upd (iw x) j (nI z) = iw (un x j z) := by
  funext i
  by_cases h : i = j <;> simp [upd, iw, un, h]
theorem vl_c {B : Nat} {x y : Nat → Nat} {n : Nat} (h : ∀ i, i < n → x i = y i) : vl B x n = vl B y n := by
  induction n with
  | zero => rfl
  | succ n ih =>
    show vl B x n + x n * B ^ n = vl B y n + y n * B ^ n
    rw [ih (fun i hi => h i (by omega)), h n (by omega)]
theorem vl_lt {B : Nat} {x : Nat → Nat} {n : Nat} (h : ∀ i, i < n → x i < B) : vl B x n < B ^ n := by
  induction n with
  | zero => exact Nat.one_pos
  | succ n ih =>
    have h1 := ih (fun i hi => h i (by omega))
    have h2 := h n (by omega)
    have h3 : (x n + 1) * B ^ n ≤ B * B ^ n := Nat.mul_le_mul_right _ h2
    show vl B x n + x n * B ^ n < B ^ (n + 1)
    rw [Nat.pow_succ, Nat.mul_comm (B ^ n) B]
    rw [Nat.add_mul, Nat.one_mul] at h3
    omega
theorem vl_u {B : Nat} {x : Nat → Nat} {n j z : Nat} (h : j < n) : vl B (un x j z) n + x j * B ^ j = vl B x n + z * B ^ j := by
  induction n with
  | zero => omega
  | succ n ih =>
    show vl B (un x j z) n + un x j z n * B ^ n + x j * B ^ j = vl B x n + x n * B ^ n + z * B ^ j
    by_cases hj : j = n
    · subst hj
      rw [un_s, vl_c (x := un x j z) (y := x) (fun i hi => un_n x z (by omega))]
      omega
    · have h1 := ih (by omega)
      rw [un_n x z (Ne.symm hj)]
      omega
theorem vl_ug {B : Nat} {x : Nat → Nat} {n j z : Nat} (h : n ≤ j) : vl B (un x j z) n = vl B x n := vl_c (fun i hi => un_n x z (by omega))
theorem vl_a (B : Nat) (x : Nat → Nat) (m n : Nat) : vl B x (m + n) = vl B x m + B ^ m * vl B (fun i => x (m + i)) n := by
  induction n with
  | zero => simp [vl]
  | succ n ih =>
    show vl B x (m + n) + x (m + n) * B ^ (m + n) = vl B x m + B ^ m * (vl B (fun i => x (m + i)) n + x (m + n) * B ^ n)
    rw [ih, Nat.mul_add, Nat.pow_add]
    have : B ^ m * (x (m + n) * B ^ n) = x (m + n) * (B ^ m * B ^ n) := by rw [Nat.mul_left_comm]
    omega
theorem vl_0 {B : Nat} (n : Nat) : vl B (fun _ => 0) n = 0 := by
  induction n with
  | zero => rfl
  | succ n ih => show vl B (fun _ => 0) n + 0 * B ^ n = 0; rw [ih]; omega
theorem vl_z {B : Nat} (hB : 0 < B) {x : Nat → Nat} {n : Nat} (h : vl B x n = 0) : ∀ i, i < n → x i = 0 := by
  induction n with
  | zero => intro i hi; omega
  | succ n ih =>
    intro i hi
    have h1 : vl B x n + x n * B ^ n = 0 := h
    have h2 : 0 < B ^ n := Nat.pow_pos hB
    by_cases hin : i = n
    · subst hin
      have h3 : x i * B ^ i = 0 := by omega
      rcases Nat.mul_eq_zero.mp h3 with q | q
      · exact q
      · omega
    · exact ih (by omega) i (by omega)
theorem vl_ge {B : Nat} {x : Nat → Nat} {n i : Nat} (h : i < n) : x i * B ^ i ≤ vl B x n := by
  induction n with
  | zero => omega
  | succ n ih =>
    show x i * B ^ i ≤ vl B x n + x n * B ^ n
    by_cases hin : i = n
    · subst hin; omega
    · have := ih (by omega); omega
/-- which of two numbers is larger, by the highest place where they differ -/
theorem vl_cmp {B : Nat} {x y : Nat → Nat} {n i : Nat} (hx : ∀ j, j < n → x j < B) (hy : ∀ j, j < n → y j < B) (hi : i < n) (he : ∀ j, i < j → j < n → x j = y j) (h : x i < y i) : vl B x n < vl B y n := by
  have hs : ∀ m, i + 1 + m ≤ n → vl B x (i + 1 + m) < vl B y (i + 1 + m) := by
    intro m
    induction m with
    | zero =>
      intro hm
      have h1 := vl_lt (B := B) (x := x) (n := i) (fun j hj => hx j (by omega))
      have h3 : (x i + 1) * B ^ i ≤ y i * B ^ i := Nat.mul_le_mul_right _ h
      show vl B x i + x i * B ^ i < vl B y i + y i * B ^ i
      rw [Nat.add_mul, Nat.one_mul] at h3
      omega
    | succ m ih =>
      intro hm
      have h1 := ih (by omega)
      show vl B x (i + 1 + m) + x (i + 1 + m) * B ^ (i + 1 + m) < vl B y (i + 1 + m) + y (i + 1 + m) * B ^ (i + 1 + m)
      rw [he (i + 1 + m) (by omega) (by omega)]
      omega
  have := hs (n - (i + 1)) (by omega)
  rw [show i + 1 + (n - (i + 1)) = n by omega] at this
  exact this
/-! ===== longs ===== -/
theorem lz_inj {a b : Nat} (ha : a < 2 ^ 64) (hb : b < 2 ^ 64) : lN a = lN b ↔ a = b := by
  constructor
  · intro h
    have h1 := congrArg (fun z : Int64 => z.toBitVec.toNat) h
    rw [wb_tn ha, wb_tn hb] at h1
    exact h1
  · intro h; rw [h]
theorem lz_sub {a b : Nat} (h : b ≤ a + 2 ^ 64) : lN a - lN b = lN (a + 2 ^ 64 - b) := by
  have h1 : lN (a + 2 ^ 64 - b) + lN b = lN a := by
    rw [lN_add, Nat.sub_add_cancel h, wb_mod, Nat.add_mod_right, ← wb_mod]
  rw [← h1, Int64.add_sub_cancel]
theorem lz_c0 {a b : Nat} (ha : a < 2 ^ 63) (hb : b < 2 ^ 63) : lg_cmp (lN a) (lN b) = 0 ↔ a = b := by
  unfold lg_cmp
  by_cases h1 : lN a > lN b
  · have := (pk_lLT hb ha).mp h1
    simp [h1]; omega
  · have h2 : ¬ b < a := fun q => h1 ((pk_lLT hb ha).mpr q)
    by_cases h3 : lN a = lN b
    · have := (pk_lEQ ha hb).mp h3
      simp [h1, h3, this]
    · have : a ≠ b := fun q => h3 ((pk_lEQ ha hb).mpr q)
      simp [h1, h3, this]
theorem lz_cge {a b : Nat} (ha : a < 2 ^ 63) (hb : b < 2 ^ 63) : 0 ≤ lg_cmp (lN a) (lN b) ↔ b ≤ a := by
  rw [lg_cmp_ge, pk_lLE hb ha]
