/-! sums, greatest divisors, ways to choose -/
noncomputable def ifZ (P : Prop) (a b : Int) : Int := by classical exact if P then a else b
theorem ifZ_y {P : Prop} {a b : Int} (h : P) : ifZ P a b = a := by unfold ifZ; simp [h]
theorem ifZ_n {P : Prop} {a b : Int} (h : ¬ P) : ifZ P a b = b := by unfold ifZ; simp [h]
theorem ifZ_iff {P R : Prop} {a b : Int} (h : P ↔ R) : ifZ P a b = ifZ R a b := by
  by_cases c : P
  · rw [ifZ_y c, ifZ_y (h.mp c)]
  · rw [ifZ_n c, ifZ_n (fun z => c (h.mpr z))]
def sumZ (f : Nat → Int) : Nat → Int
  | 0 => 0
  | k + 1 => sumZ f k + f k
theorem sumZ_s (f : Nat → Int) (k : Nat) : sumZ f (k + 1) = sumZ f k + f k := rfl
theorem sumZ_congr {f g : Nat → Int} : ∀ k, (∀ j, j < k → f j = g j) → sumZ f k = sumZ g k
  | 0, _ => rfl
  | k + 1, h => by rw [sumZ, sumZ, sumZ_congr k (fun j hj => h j (Nat.lt_succ_of_lt hj)), h k (Nat.lt_succ_self k)]
theorem sumZ_b {f : Nat → Int} {lo hi : Int} : ∀ k, (∀ j, j < k → lo ≤ f j ∧ f j ≤ hi) → lo * k ≤ sumZ f k ∧ sumZ f k ≤ hi * k
  | 0, _ => by simp [sumZ]
  | k + 1, h => by
    have h1 := sumZ_b k (fun j hj => h j (Nat.lt_succ_of_lt hj))
    have h2 := h k (Nat.lt_succ_self k)
    have e1 : lo * ((k + 1 : Nat) : Int) = lo * k + lo := by rw [Int.natCast_succ, Int.mul_add, Int.mul_one]
    have e2 : hi * ((k + 1 : Nat) : Int) = hi * k + hi := by rw [Int.natCast_succ, Int.mul_add, Int.mul_one]
    rw [sumZ, e1, e2]
    omega
theorem sumZ_0 {f : Nat → Int} {a : Nat} : ∀ b, a ≤ b → (∀ j, a ≤ j → j < b → f j = 0) → sumZ f b = sumZ f a
  | 0, h, _ => by rw [show a = 0 by omega]
  | b + 1, h, hz => by
    by_cases e : a = b + 1
    · rw [e]
    · rw [sumZ, sumZ_0 b (by omega) (fun j h1 h2 => hz j h1 (by omega)), hz b (by omega) (by omega)]
      omega
theorem cnt_sum (P : Nat → Prop) : ∀ k, cntZ P k = sumZ (fun j => bt (P j)) k
  | 0 => rfl
  | k + 1 => by rw [cntZ, sumZ, cnt_sum P k]
def fibN : Nat → Nat
  | 0 => 0
  | 1 => 1
  | n + 2 => fibN (n + 1) + fibN n
theorem fib_mono : ∀ n, fibN n ≤ fibN (n + 1)
  | 0 => by decide
  | n + 1 => by
    show fibN (n + 1) ≤ fibN (n + 1) + fibN n
    omega
theorem fib_8 (n : Nat) : 8 * fibN n ≤ fibN (n + 5) := by
  have h := fib_mono n
  have e2 : fibN (n + 2) = fibN (n + 1) + fibN n := rfl
  have e3 : fibN (n + 3) = fibN (n + 2) + fibN (n + 1) := rfl
  have e4 : fibN (n + 4) = fibN (n + 3) + fibN (n + 2) := rfl
  have e5 : fibN (n + 5) = fibN (n + 4) + fibN (n + 3) := rfl
  omega
theorem fib_pow : ∀ k, 8 ^ k ≤ fibN (5 * k + 1)
  | 0 => by decide
  | k + 1 => by
    have h := fib_pow k
    have h2 := fib_8 (5 * k + 1)
    rw [Nat.pow_succ, show 5 * (k + 1) + 1 = 5 * k + 1 + 5 by omega]
    omega
theorem fib_101 : 1152921504606846976 ≤ fibN 101 := by
  have h := fib_pow 20
  have e : (8 : Nat) ^ 20 = 1152921504606846976 := by decide
  rw [e] at h
  exact h
/-- the walk of the greatest divisor: behind t turns -/
def GJ (a b t x y : Nat) : Prop := Nat.gcd x y = Nat.gcd a b ∧ t ≤ 100 ∧ x < 1152921504606846976 ∧ y < 1152921504606846976 ∧ (t = 0 ∨ (y < x ∧ (y < fibN (101 - t) ∨ x < fibN (102 - t))))
theorem gj_0 {a b : Nat} (ha : a < 1152921504606846976) (hb : b < 1152921504606846976) : GJ a b 0 a b := ⟨rfl, by omega, ha, hb, Or.inl rfl⟩
theorem gj_s {a b t x y : Nat} (h : GJ a b t x y) (hy : y ≠ 0) (ht : t < 100) : GJ a b (t + 1) y (x % y) := by
  obtain ⟨h1, h2, h3, h4, h5⟩ := h
  have hl : x % y < y := Nat.mod_lt _ (by omega)
  refine ⟨?_, by omega, h4, by omega, Or.inr ⟨hl, ?_⟩⟩
  · rw [← h1, Nat.gcd_comm x y, Nat.gcd_rec y x, Nat.gcd_comm]
  · rcases h5 with h5 | ⟨h5, h6⟩
    · subst h5
      exact Or.inr (Nat.lt_of_lt_of_le h4 fib_101)
    · by_cases c : y < fibN (101 - t)
      · exact Or.inr (by rw [show 102 - (t + 1) = 101 - t by omega]; exact c)
      · have h7 := h6.resolve_left c
        have e : fibN (102 - t) = fibN (101 - t) + fibN (100 - t) := by
          obtain ⟨m, hm⟩ : ∃ m, 100 - t = m := ⟨_, rfl⟩
          rw [show 102 - t = m + 2 by omega, show 101 - t = m + 1 by omega, hm]
          rfl
        refine Or.inl ?_
        rw [show 101 - (t + 1) = 100 - t by omega]
        have e2 : x % y ≤ x - y := by
          have := Nat.mod_add_div x y
          have hd : 1 ≤ x / y := (Nat.le_div_iff_mul_le (by omega)).mpr (by omega)
          have : y * 1 ≤ y * (x / y) := Nat.mul_le_mul_left y hd
          omega
        omega
theorem gj_e {a b t x y : Nat} (h : GJ a b t x y) (he : y = 0 ∨ 100 ≤ t) : x = Nat.gcd a b := by
  obtain ⟨h1, h2, h3, h4, h5⟩ := h
  have hy : y = 0 := by
    rcases he with h | h
    · exact h
    · rcases h5 with h5 | ⟨h5, h6⟩
      · omega
      · rw [show 101 - t = 1 by omega, show 102 - t = 2 by omega] at h6
        have e1 : fibN 1 = 1 := rfl
        have e2 : fibN 2 = 1 := rfl
        omega
  rw [← h1, hy, Nat.gcd_zero_right]
/-- a fraction in lowest terms, by part -/
def frc (a b : Nat) (p : Int) : Int := if p = 0 then (((a / Nat.gcd a b : Nat)) : Int) else (((b / Nat.gcd a b : Nat)) : Int)
def chL (n k : Nat) : Nat → Nat
  | 0 => 1
  | i + 1 => chL n k i * (n - k + (i + 1)) / (i + 1)
def chOk (n : Nat) : Bool := (List.range (n + 1)).all fun k => (List.range (k + 1)).all fun i => decide (chL n k i * 64 ≤ 2 ^ 46) && decide (chL n k k ≤ 2 ^ n)
theorem chOk_all : (List.range 41).all chOk = true := by decide +kernel
theorem chL_b {n k i : Nat} (hn : n ≤ 40) (hk : k ≤ n) (hi : i ≤ k) : chL n k i * 64 ≤ 70368744177664 ∧ chL n k k ≤ 2 ^ n := by
  have h1 := List.all_eq_true.mp chOk_all n (List.mem_range.mpr (by omega))
  have h2 := List.all_eq_true.mp h1 k (List.mem_range.mpr (by omega))
  have h3 := List.all_eq_true.mp h2 i (List.mem_range.mpr (by omega))
  simp only [Bool.and_eq_true, decide_eq_true_eq] at h3
  exact ⟨h3.1, h3.2⟩
/-- ways to choose k of n -/
def chI (n : Nat) (k : Int) : Int := if 0 ≤ k ∧ k ≤ (n : Int) then ((chL n k.toNat k.toNat : Nat) : Int) else 0
theorem chI_in {n k : Nat} (h : k ≤ n) : chI n (k : Int) = ((chL n k k : Nat) : Int) := by
  unfold chI
  rw [if_pos (by omega)]
  rfl
theorem chI_out {n : Nat} {k : Int} (h : k < 0 ∨ (n : Int) < k) : chI n k = 0 := by
  unfold chI
  rw [if_neg (by omega)]
theorem chI_b {n : Nat} (hn : n ≤ 40) (k : Int) : 0 ≤ chI n k ∧ chI n k ≤ ((2 ^ n : Nat) : Int) := by
  by_cases c : 0 ≤ k ∧ k ≤ (n : Int)
  · obtain ⟨m, rfl⟩ := Int.eq_ofNat_of_zero_le c.1
    rw [chI_in (by omega)]
    have := (chL_b (n := n) (k := m) (i := m) hn (by omega) (Nat.le_refl m)).2
    omega
  · rw [chI_out (by omega)]
    have : 0 < 2 ^ n := Nat.two_pow_pos n
    omega
theorem pow_step (b : Int) (k : Nat) : b ^ (k + 1) = b ^ k * b := Int.pow_succ b k
theorem pow_b {b : Int} {B : Nat} (h0 : 0 ≤ b) (h1 : b ≤ (B : Int)) : ∀ k : Nat, 0 ≤ b ^ k ∧ b ^ k ≤ ((B ^ k : Nat) : Int)
  | 0 => by simp
  | k + 1 => by
    have h := pow_b h0 h1 k
    rw [pow_step, Nat.pow_succ, Int.natCast_mul]
    exact ⟨Int.mul_nonneg h.1 h0, Int.mul_le_mul h.2 h1 h0 (Int.natCast_nonneg _)⟩
theorem chL_r {n k i : Nat} (hn : n ≤ 40) (hk : k ≤ n) (hi : i < k) : 0 ≤ ((chL n k i : Nat) : Int) * ((((n : Nat) : Int) - ((k : Nat) : Int)) + ((i + 1 : Nat) : Int)) ∧ r64 (((chL n k i : Nat) : Int) * ((((n : Nat) : Int) - ((k : Nat) : Int)) + ((i + 1 : Nat) : Int))) := by
  have h := (chL_b (n := n) (k := k) (i := i) hn hk (by omega)).1
  have e : ((chL n k i : Nat) : Int) * ((((n : Nat) : Int) - ((k : Nat) : Int)) + ((i + 1 : Nat) : Int)) = ((chL n k i * (n - k + (i + 1)) : Nat) : Int) := by
    rw [Int.natCast_mul]
    congr 1
    omega
  rw [e]
  have h2 : chL n k i * (n - k + (i + 1)) ≤ chL n k i * 64 := Nat.mul_le_mul_left _ (by omega)
  omega
theorem chL_s {n k i : Nat} (hk : k ≤ n) : ((chL n k i : Nat) : Int) * ((((n : Nat) : Int) - ((k : Nat) : Int)) + ((i + 1 : Nat) : Int)) / ((i + 1 : Nat) : Int) = ((chL n k (i + 1) : Nat) : Int) := by
  have e : ((chL n k i : Nat) : Int) * ((((n : Nat) : Int) - ((k : Nat) : Int)) + ((i + 1 : Nat) : Int)) = ((chL n k i * (n - k + (i + 1)) : Nat) : Int) := by
    rw [Int.natCast_mul]
    congr 1
    omega
  rw [e, ← Int.natCast_ediv]
  rfl
