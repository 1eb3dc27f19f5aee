
/-! ===== minors, and elimination without fractions ===== -/
def wg (a : Nat → Int) : (List Nat → Int) → List Nat → Int
  | _, [] => 0
  | F, c :: cs => a c * F cs - wg a (fun t => F (c :: t)) cs
def dt : List (Nat → Int) → List Nat → Int
  | [], _ => 1
  | a :: rows, cs => wg a (dt rows) cs
theorem wg_sub (a : Nat → Int) (cs : List Nat) : ∀ (F G : List Nat → Int), wg a (fun t => F t - G t) cs = wg a F cs - wg a G cs := by
  induction cs with
  | nil => intro F G; simp [wg]
  | cons c cs ih =>
    intro F G
    simp only [wg]
    rw [ih (fun t => F (c :: t)) (fun t => G (c :: t))]
    grind
theorem wg_mul (a : Nat → Int) (x : Int) (cs : List Nat) : ∀ (F : List Nat → Int), wg a (fun t => x * F t) cs = x * wg a F cs := by
  induction cs with
  | nil => intro F; simp [wg]
  | cons c cs ih =>
    intro F
    simp only [wg]
    rw [ih (fun t => F (c :: t))]
    grind
theorem wg_zero (a : Nat → Int) (cs : List Nat) : wg a (fun _ => 0) cs = 0 := by
  induction cs with
  | nil => rfl
  | cons c cs ih => simp only [wg]; rw [ih]; omega
theorem wg_anti (a b : Nat → Int) (cs : List Nat) : ∀ (F : List Nat → Int), wg a (wg b F) cs = - wg b (wg a F) cs := by
  induction cs with
  | nil => intro F; simp [wg]
  | cons c cs ih =>
    intro F
    have e1 : (fun t => wg b F (c :: t)) = (fun t => b c * F t - wg b (fun s => F (c :: s)) t) := rfl
    have e2 : (fun t => wg a F (c :: t)) = (fun t => a c * F t - wg a (fun s => F (c :: s)) t) := rfl
    show a c * wg b F cs - wg a (fun t => wg b F (c :: t)) cs = - (b c * wg a F cs - wg b (fun t => wg a F (c :: t)) cs)
    rw [e1, e2, wg_sub, wg_sub, wg_mul, wg_mul]
    have := ih (fun s => F (c :: s))
    have e3 : wg a (fun t => wg b (fun s => F (c :: s)) t) cs = wg a (wg b (fun s => F (c :: s))) cs := rfl
    have e4 : wg b (fun t => wg a (fun s => F (c :: s)) t) cs = wg b (wg a (fun s => F (c :: s))) cs := rfl
    rw [e3, e4]
    omega
theorem wg_two (a : Nat → Int) (F : List Nat → Int) (cs : List Nat) : wg a (wg a F) cs = 0 := by
  have := wg_anti a a cs F
  omega
theorem dt_dup {a : Nat → Int} : ∀ (rows : List (Nat → Int)), a ∈ rows → ∀ cs, dt (a :: rows) cs = 0 := by
  intro rows
  induction rows with
  | nil => intro h; cases h
  | cons b rows ih =>
    intro h cs
    rcases List.mem_cons.mp h with q | q
    · subst q
      exact wg_two a (dt rows) cs
    · show wg a (wg b (dt rows)) cs = 0
      rw [wg_anti]
      have e : wg a (dt rows) = fun _ => 0 := by
        funext t
        exact ih q t
      rw [e, wg_zero]
      rfl
/-- sums -/
def sm : Nat → (Nat → Int) → Int
  | 0, _ => 0
  | n + 1, g => sm n g + g n
theorem sm_c {n : Nat} {g h : Nat → Int} (e : ∀ l, l < n → g l = h l) : sm n g = sm n h := by
  induction n with
  | zero => rfl
  | succ n ih => simp only [sm]; rw [ih (fun l hl => e l (by omega)), e n (by omega)]
theorem sm_sub (n : Nat) (g h : Nat → Int) : sm n (fun l => g l - h l) = sm n g - sm n h := by
  induction n with
  | zero => rfl
  | succ n ih => simp only [sm]; rw [ih]; omega
theorem sm_add (n : Nat) (g h : Nat → Int) : sm n (fun l => g l + h l) = sm n g + sm n h := by
  induction n with
  | zero => rfl
  | succ n ih => simp only [sm]; rw [ih]; omega
theorem sm_mul (n : Nat) (x : Int) (g : Nat → Int) : sm n (fun l => x * g l) = x * sm n g := by
  induction n with
  | zero => simp [sm]
  | succ n ih => simp only [sm]; rw [ih]; grind
theorem sm_zero (n : Nat) : sm n (fun _ => 0) = 0 := by
  induction n with
  | zero => rfl
  | succ n ih => simp only [sm]; rw [ih]; rfl
def kd (l : Nat) : Nat → Int := fun c => if c = l then 1 else 0
theorem sm_kd (n c : Nat) (hc : c < n) (a : Nat → Int) (X : Int) : sm n (fun l => a l * (kd l c * X)) = a c * X := by
  induction n with
  | zero => omega
  | succ n ih =>
    simp only [sm]
    by_cases q : c = n
    · subst q
      have e : sm c (fun l => a l * (kd l c * X)) = 0 := by
        rw [sm_c (h := fun _ => 0) (fun l hl => by simp [kd, show ¬ c = l by omega]), sm_zero]
      rw [e]
      simp [kd]
    · rw [ih (by omega)]
      simp [kd, q]
theorem wg_lin (k : Nat) (a : Nat → Int) (cs : List Nat) : (∀ c ∈ cs, c < k) → ∀ F : List Nat → Int, wg a F cs = sm k (fun l => a l * wg (kd l) F cs) := by
  induction cs with
  | nil => intro _ F; simp only [wg]; rw [sm_c (h := fun _ => 0) (fun l _ => by simp), sm_zero]
  | cons c cs ih =>
    intro hc F
    have h1 := ih (fun d hd => hc d (List.mem_cons_of_mem _ hd)) (fun t => F (c :: t))
    show a c * F cs - wg a (fun t => F (c :: t)) cs = sm k (fun l => a l * (kd l c * F cs - wg (kd l) (fun t => F (c :: t)) cs))
    rw [h1, sm_c (g := fun l => a l * (kd l c * F cs - wg (kd l) (fun t => F (c :: t)) cs)) (h := fun l => a l * (kd l c * F cs) - a l * wg (kd l) (fun t => F (c :: t)) cs) (fun l _ => by grind), sm_sub, sm_kd k c (hc c List.mem_cons_self)]
theorem wg_kd0 {l : Nat} (cs : List Nat) : (∀ c ∈ cs, c ≠ l) → ∀ F : List Nat → Int, wg (kd l) F cs = 0 := by
  induction cs with
  | nil => intro _ F; rfl
  | cons c cs ih =>
    intro hc F
    show kd l c * F cs - wg (kd l) (fun t => F (c :: t)) cs = 0
    rw [ih (fun d hd => hc d (List.mem_cons_of_mem _ hd))]
    simp [kd, hc c List.mem_cons_self]
/-- the first k rows of an arrangement, the last one first; the first k columns, the last one first -/
def rws (A : Nat → Nat → Int) : Nat → List (Nat → Int)
  | 0 => []
  | k + 1 => A k :: rws A k
def cls : Nat → List Nat
  | 0 => []
  | k + 1 => k :: cls k
theorem cls_lt (k : Nat) : ∀ c ∈ cls k, c < k := by
  induction k with
  | zero => intro c h; cases h
  | succ k ih =>
    intro c h
    rcases List.mem_cons.mp h with q | q
    · omega
    · have := ih c q; omega
theorem rws_mem (A : Nat → Nat → Int) {k i : Nat} (h : i < k) : A i ∈ rws A k := by
  induction k with
  | zero => omega
  | succ k ih =>
    by_cases q : i = k
    · subst q; exact List.mem_cons_self
    · exact List.mem_cons_of_mem _ (ih (by omega))
def bd (A : Nat → Nat → Int) (k : Nat) : Int := dt (rws A k) (cls k)
def bE (A : Nat → Nat → Int) (k i j : Nat) : Int := dt (A i :: rws A k) (j :: cls k)
def bC (A : Nat → Nat → Int) (k l j : Nat) : Int := wg (kd l) (fun t => dt (rws A k) (j :: t)) (cls k)
theorem bE_eq (A : Nat → Nat → Int) (k i j : Nat) : bE A k i j = A i j * bd A k - sm k (fun l => A i l * bC A k l j) := by
  show A i j * dt (rws A k) (cls k) - wg (A i) (fun t => dt (rws A k) (j :: t)) (cls k) = _
  rw [wg_lin k (A i) (cls k) (cls_lt k)]
  rfl
theorem bE_0 (A : Nat → Nat → Int) {k i : Nat} (j : Nat) (h : i < k) : bE A k i j = 0 := dt_dup _ (rws_mem A h) _
theorem bd_s (A : Nat → Nat → Int) (k : Nat) : bd A (k + 1) = bE A k k k := rfl
theorem bC_k (A : Nat → Nat → Int) (k j : Nat) : bC A (k + 1) k j = bE A k k j := by
  show kd k k * dt (rws A (k + 1)) (j :: cls k) - wg (kd k) (fun t => dt (rws A (k + 1)) (j :: (k :: t))) (cls k) = _
  rw [wg_kd0 (cls k) (fun c hc => by have := cls_lt k c hc; omega)]
  simp [kd]
  rfl
/-- only 0 solves the first k rows without a right side -/
theorem b_uni (A : Nat → Nat → Int) (k : Nat) : (∀ m, m ≤ k → bd A m ≠ 0) → ∀ y : Nat → Int, (∀ i, i < k → sm k (fun l => A i l * y l) = 0) → ∀ l, l < k → y l = 0 := by
  induction k with
  | zero => intro _ y _ l h; omega
  | succ k ih =>
    intro hd y hy
    have hdk : bd A k ≠ 0 := hd k (by omega)
    have hs : ∀ i, sm k (fun l => A i l * (bd A k * y l + bC A k l k * y k)) = bd A k * sm k (fun l => A i l * y l) + y k * (A i k * bd A k - bE A k i k) := by
      intro i
      rw [bE_eq, sm_c (h := fun l => bd A k * (A i l * y l) + y k * (A i l * bC A k l k)) (fun l _ => by grind), sm_add, sm_mul, sm_mul]
      grind
    have hz := ih (fun m hm => hd m (by omega)) (fun l => bd A k * y l + bC A k l k * y k) (fun i hi => by
      have h1 : sm k (fun l => A i l * y l) + A i k * y k = 0 := hy i (by omega)
      rw [hs i, bE_0 A k hi]
      have h2 : sm k (fun l => A i l * y l) = - (A i k * y k) := by omega
      rw [h2]
      grind)
    have h1 : sm k (fun l => A k l * y l) + A k k * y k = 0 := hy k (by omega)
    have h3 := hs k
    rw [sm_c (h := fun _ => 0) (fun l hl => by rw [hz l hl]; omega), sm_zero, ← bd_s] at h3
    have h4 : bd A (k + 1) * y k = 0 := by
      have h2 : sm k (fun l => A k l * y l) = - (A k k * y k) := by omega
      rw [h2] at h3
      grind
    have h5 : y k = 0 := (Int.mul_eq_zero.mp h4).resolve_left (hd (k + 1) (by omega))
    intro l hl
    by_cases q : l = k
    · subst q; exact h5
    · have h6 := hz l (by omega)
      simp only [h5, Int.mul_zero, Int.add_zero] at h6
      exact (Int.mul_eq_zero.mp h6).resolve_left hdk
/-- a step: what the division gives -/
theorem b_step (A : Nat → Nat → Int) (k j : Nat) (hd : ∀ m, m ≤ k + 1 → bd A m ≠ 0) : (∀ l, l < k → bd A k * bC A (k + 1) l j = bd A (k + 1) * bC A k l j - bC A k l k * bE A k k j) ∧ ∀ i, bd A k * bE A (k + 1) i j = bd A (k + 1) * bE A k i j - bE A k i k * bE A k k j := by
  have hS : ∀ i, sm k (fun l => A i l * (bd A (k + 1) * bC A k l j - bC A k l k * bE A k k j)) = bd A (k + 1) * (A i j * bd A k - bE A k i j) - bE A k k j * (A i k * bd A k - bE A k i k) := by
    intro i
    rw [bE_eq A k i j, bE_eq A k i k, sm_c (h := fun l => bd A (k + 1) * (A i l * bC A k l j) - bE A k k j * (A i l * bC A k l k)) (fun l _ => by grind), sm_sub, sm_mul, sm_mul]
    grind
  have hT : ∀ i, sm k (fun l => A i l * (bd A k * bC A (k + 1) l j)) + A i k * (bd A k * bE A k k j) = bd A k * (A i j * bd A (k + 1) - bE A (k + 1) i j) := by
    intro i
    rw [bE_eq A (k + 1) i j]
    show _ = bd A k * (A i j * bd A (k + 1) - (A i j * bd A (k + 1) - (sm k (fun l => A i l * bC A (k + 1) l j) + A i k * bC A (k + 1) k j)))
    rw [bC_k, sm_c (h := fun l => bd A k * (A i l * bC A (k + 1) l j)) (fun l _ => by grind), sm_mul]
    grind
  have key := b_uni A (k + 1) (fun m hm => hd m hm) (fun l => if l < k then (bd A (k + 1) * bC A k l j - bC A k l k * bE A k k j) - bd A k * bC A (k + 1) l j else 0) (fun i hi => by
    show sm k _ + _ = 0
    rw [sm_c (h := fun l => A i l * (bd A (k + 1) * bC A k l j - bC A k l k * bE A k k j) - A i l * (bd A k * bC A (k + 1) l j)) (fun l hl => by simp only [hl, if_true]; grind), sm_sub, hS i]
    have h0 : (A i k * if k < k then bd A (k + 1) * bC A k k j - bC A k k k * bE A k k j - bd A k * bC A (k + 1) k j else 0) = 0 := by rw [if_neg (Nat.lt_irrefl k), Int.mul_zero]
    show _ + (A i k * if k < k then bd A (k + 1) * bC A k k j - bC A k k k * bE A k k j - bd A k * bC A (k + 1) k j else 0) = 0
    rw [h0]
    have h1 := hT i
    have h2 : bE A (k + 1) i j = 0 := bE_0 A j hi
    rw [h2] at h1
    by_cases q : i = k
    · subst q
      rw [← bd_s] 
      grind
    · rw [bE_0 A j (by omega : i < k), bE_0 A k (by omega : i < k)]
      grind)
  have hC : ∀ l, l < k → bd A k * bC A (k + 1) l j = bd A (k + 1) * bC A k l j - bC A k l k * bE A k k j := by
    intro l hl
    have h1 := key l (by omega)
    simp only [hl, if_true] at h1
    omega
  refine ⟨hC, fun i => ?_⟩
  have h1 := hT i
  rw [sm_c (h := fun l => A i l * (bd A (k + 1) * bC A k l j - bC A k l k * bE A k k j)) (fun l hl => by rw [hC l hl]), hS i] at h1
  grind
