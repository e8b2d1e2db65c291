/-! the reference's choice among the best joins -/
theorem jmx_b {f : Nat → Int} {b : Int} : ∀ k, b ≤ jmx f b k ∧ ∀ j, j < k → f j ≤ jmx f b k
  | 0 => ⟨Int.le_refl _, fun j hj => absurd hj (Nat.not_lt_zero _)⟩
  | k + 1 => by
    have ih := jmx_b (f := f) (b := b) k
    rw [jmx]
    refine ⟨by omega, fun j hj => ?_⟩
    by_cases e : j = k
    · subst e; omega
    · have := ih.2 j (by omega); omega
theorem jmx_m {f : Nat → Int} {b : Int} : ∀ k, jmx f b k = b ∨ ∃ j, j < k ∧ f j = jmx f b k
  | 0 => Or.inl rfl
  | k + 1 => by
    rw [jmx]
    rcases Int.le_total (jmx f b k) (f k) with c | c
    · rw [Int.max_eq_right c]; exact Or.inr ⟨k, by omega, rfl⟩
    · rw [Int.max_eq_left c]
      rcases jmx_m (f := f) (b := b) k with e | ⟨j, h1, h2⟩
      · exact Or.inl e
      · exact Or.inr ⟨j, by omega, h2⟩
/-- the first that reaches t, or 12 -/
def pk (f : Nat → Int) (t : Int) : Nat → Nat
  | 0 => 12
  | k + 1 => if pk f t k = 12 ∧ f k = t then k else pk f t k
theorem pk_s {f : Nat → Int} {t : Int} : ∀ k, k ≤ 12 → (pk f t k = 12 ∧ ∀ j, j < k → f j ≠ t) ∨ (pk f t k < k ∧ f (pk f t k) = t ∧ ∀ j, j < pk f t k → f j ≠ t)
  | 0, _ => Or.inl ⟨rfl, fun j hj => absurd hj (Nat.not_lt_zero _)⟩
  | k + 1, hk => by
    rcases pk_s (f := f) (t := t) k (by omega) with ⟨a, b⟩ | ⟨a, b, c⟩
    · by_cases e : f k = t
      · rw [pk, if_pos ⟨a, e⟩]; exact Or.inr ⟨by omega, e, b⟩
      · rw [pk, if_neg (fun z => e z.2)]
        refine Or.inl ⟨a, fun j hj => ?_⟩
        by_cases z : j = k
        · rw [z]; exact e
        · exact b j (by omega)
    · rw [pk, if_neg (fun z => by have := z.1; omega)]
      exact Or.inr ⟨by omega, b, c⟩
def us (X : Nat → Nat → Int) (ma mb : Nat) : Nat → Nat
  | 0 => 0
  | i + 1 => if pk (fJ X (bj X ma mb (ma - (i + 1))) i (us X ma mb i)) (bj X ma mb (ma - i) (us X ma mb i)) mb = 12 then us X ma mb i else us X ma mb i ||| 2 ^ (pk (fJ X (bj X ma mb (ma - (i + 1))) i (us X ma mb i)) (bj X ma mb (ma - i) (us X ma mb i)) mb)
def ch (X : Nat → Nat → Int) (ma mb : Nat) (i : Nat) : Nat := pk (fJ X (bj X ma mb (ma - (i + 1))) i (us X ma mb i)) (bj X ma mb (ma - i) (us X ma mb i)) mb
def ua (a : Nat → Nat) : Nat → Nat
  | 0 => 0
  | i + 1 => if a i = 12 then ua a i else ua a i ||| 2 ^ (a i)
theorem ua_ch {X : Nat → Nat → Int} {ma mb : Nat} : ∀ i, ua (ch X ma mb) i = us X ma mb i
  | 0 => rfl
  | i + 1 => by
    rw [ua, ua_ch i, us]
    rfl
theorem or_bit {s j k : Nat} : (s ||| 2 ^ k) / 2 ^ j % 2 = 1 ↔ (s / 2 ^ j % 2 = 1 ∨ k = j) := by
  have h1 := Nat.testBit_eq_decide_div_mod_eq (x := s ||| 2 ^ k) (i := j)
  have h2 := Nat.testBit_eq_decide_div_mod_eq (x := s) (i := j)
  rw [Nat.testBit_or, Nat.testBit_two_pow, h2] at h1
  by_cases c : (s ||| 2 ^ k) / 2 ^ j % 2 = 1 <;> by_cases d : s / 2 ^ j % 2 = 1 <;> by_cases e : k = j <;> simp_all
theorem ua_bit {a : Nat → Nat} {j : Nat} (hj : j ≠ 12) : ∀ i, ua a i / 2 ^ j % 2 = 1 ↔ ∃ k, k < i ∧ a k = j
  | 0 => by
    rw [ua, Nat.zero_div]
    exact ⟨fun h => absurd h (by decide), fun ⟨k, h, _⟩ => absurd h (Nat.not_lt_zero _)⟩
  | i + 1 => by
    have ih := ua_bit hj (a := a) i
    rw [ua]
    by_cases c : a i = 12
    · rw [if_pos c, ih]
      constructor
      · rintro ⟨k, h1, h2⟩; exact ⟨k, by omega, h2⟩
      · rintro ⟨k, h1, h2⟩
        refine ⟨k, ?_, h2⟩
        rcases Nat.lt_succ_iff_lt_or_eq.mp h1 with z | z
        · exact z
        · rw [z, c] at h2; exact absurd h2.symm hj
    · rw [if_neg c, or_bit, ih]
      constructor
      · rintro (⟨k, h1, h2⟩ | h)
        · exact ⟨k, by omega, h2⟩
        · exact ⟨i, by omega, h⟩
      · rintro ⟨k, h1, h2⟩
        rcases Nat.lt_succ_iff_lt_or_eq.mp h1 with z | z
        · exact Or.inl ⟨k, z, h2⟩
        · exact Or.inr (by rw [← z]; exact h2)
/-- a way to join -/
def vA (X : Nat → Nat → Int) (ma mb : Nat) (a : Nat → Nat) : Prop := (∀ i, i < ma → a i = 12 ∨ (a i < mb ∧ 0 ≤ X i (a i))) ∧ (∀ i j, i < ma → j < ma → a i = a j → a i ≠ 12 → i = j)
/-- of the last r rows: how many are joined, and what they miss -/
def jn (a : Nat → Nat) (ma : Nat) : Nat → Int
  | 0 => 0
  | r + 1 => (if a (ma - (r + 1)) = 12 then 0 else 1) + jn a ma r
def mn (X : Nat → Nat → Int) (a : Nat → Nat) (ma : Nat) : Nat → Int
  | 0 => 0
  | r + 1 => (if a (ma - (r + 1)) = 12 then 0 else X (ma - (r + 1)) (a (ma - (r + 1)))) + mn X a ma r
def dg (a : Nat → Nat) (ma : Nat) : Nat → Int
  | 0 => 0
  | r + 1 => ((a (ma - (r + 1)) : Nat) : Int) * ((dgP (ma - (r + 1) + 1) : Nat) : Int) + dg a ma r
theorem jm_r {X : Nat → Nat → Int} {a : Nat → Nat} {ma mb : Nat} (hX : ∀ i j, X i j ≤ 35) (hv : vA X ma mb a) : ∀ r, r ≤ ma → (0 ≤ jn a ma r ∧ jn a ma r ≤ ((r : Nat) : Int)) ∧ 0 ≤ mn X a ma r ∧ mn X a ma r ≤ 35 * jn a ma r
  | 0, _ => by rw [jn, mn]; decide
  | r + 1, hr => by
    have ih := jm_r hX hv r (by omega)
    rw [jn, mn]
    by_cases c : a (ma - (r + 1)) = 12
    · rw [if_pos c, if_pos c]; omega
    · rw [if_neg c, if_neg c]
      have h1 := hX (ma - (r + 1)) (a (ma - (r + 1)))
      rcases hv.1 (ma - (r + 1)) (by omega) with z | z
      · exact absurd z c
      · have := z.2; omega
theorem dg_r {X : Nat → Nat → Int} {a : Nat → Nat} {ma mb : Nat} (hm : ma ≤ 12) (hb : mb ≤ 12) (hv : vA X ma mb a) : ∀ r, r ≤ ma → 0 ≤ dg a ma r ∧ dg a ma r < ((dgP (ma - r) : Nat) : Int)
  | 0, _ => by
    have := dg_b ma
    rw [dg, Nat.sub_zero]
    omega
  | r + 1, hr => by
    have ih := dg_r hm hb hv r (by omega)
    have e : dgP (ma - (r + 1)) = dgP (ma - (r + 1) + 1) * 13 := by
      unfold dgP
      rw [show 12 - (ma - (r + 1)) = 12 - (ma - (r + 1) + 1) + 1 by omega, Nat.pow_succ]
    rw [show ma - r = ma - (r + 1) + 1 by omega] at ih
    have ha : a (ma - (r + 1)) ≤ 12 := by
      rcases hv.1 (ma - (r + 1)) (by omega) with z | z
      · omega
      · have := z.1; omega
    rw [dg, e]
    generalize dgP (ma - (r + 1) + 1) = D at *
    have h1 : 0 ≤ ((a (ma - (r + 1)) : Nat) : Int) * ((D : Nat) : Int) := Int.mul_nonneg (by omega) (by omega)
    have h2 : ((a (ma - (r + 1)) : Nat) : Int) * ((D : Nat) : Int) ≤ 12 * ((D : Nat) : Int) := Int.mul_le_mul_of_nonneg_right (by omega) (by omega)
    omega
