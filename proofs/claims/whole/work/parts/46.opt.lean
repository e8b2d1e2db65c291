/-! prices that fit: no other way is cheaper -/
theorem sum_add (f g : Nat → Int) : ∀ k, sumZ (fun i => f i + g i) k = sumZ f k + sumZ g k
  | 0 => rfl
  | k + 1 => by
    have ih := sum_add f g k
    rw [sumZ, sumZ, sumZ, ih]
    omega
theorem sum_le {f g : Nat → Int} : ∀ k, (∀ i, i < k → f i ≤ g i) → sumZ f k ≤ sumZ g k
  | 0, _ => Int.le_refl _
  | k + 1, h => by
    have ih := sum_le k (fun i hi => h i (by omega))
    have := h k (by omega)
    rw [sumZ, sumZ]
    omega
theorem sum_nul {f : Nat → Int} : ∀ k, (∀ i, i < k → f i = 0) → sumZ f k = 0
  | 0, _ => rfl
  | k + 1, h => by rw [sumZ, sum_nul k (fun i hi => h i (by omega)), h k (by omega)]; rfl
theorem sum_pt {f : Nat → Int} {j : Nat} : ∀ k, j < k → (∀ i, i < k → i ≠ j → f i = 0) → sumZ f k = f j
  | 0, hj, _ => absurd hj (Nat.not_lt_zero _)
  | k + 1, hj, h => by
    by_cases e : j = k
    · subst e
      rw [sumZ, sum_nul j (fun i hi => h i (by omega) (by omega))]
      omega
    · rw [sumZ, sum_pt k (by omega) (fun i hi => h i (by omega)), h k (by omega) (fun z => e z.symm)]
      omega
theorem sum_cols {v : Nat → Int} {f : Nat → Nat} {cl : Nat} : ∀ r, (∀ i, i < r → 1 ≤ f i ∧ f i ≤ cl) → sumZ (fun i => v (f i)) r = sumZ (fun c => v (c + 1) * cntZ (fun i => f i = c + 1) r) cl
  | 0, _ => by
    rw [sum_nul (f := fun c => v (c + 1) * cntZ (fun i => f i = c + 1) 0) cl (fun c _ => by show v (c + 1) * cntZ _ 0 = 0; rw [cntZ, Int.mul_zero])]
    rfl
  | r + 1, h => by
    have ih := sum_cols (v := v) r (fun i hi => h i (by omega))
    have hr := h r (by omega)
    have e1 : sumZ (fun c => v (c + 1) * cntZ (fun i => f i = c + 1) (r + 1)) cl = sumZ (fun c => v (c + 1) * cntZ (fun i => f i = c + 1) r + v (c + 1) * bt (f r = c + 1)) cl := by
      refine sumZ_congr cl (fun c _ => ?_)
      show v (c + 1) * cntZ (fun i => f i = c + 1) (r + 1) = _
      rw [cntZ, Int.mul_add]
    have e2 : sumZ (fun c => v (c + 1) * bt (f r = c + 1)) cl = v (f r) := by
      rw [sum_pt (j := f r - 1) cl (by omega) (fun c hc hne => by show v (c + 1) * bt (f r = c + 1) = 0; rw [bt_0 (by omega), Int.mul_zero])]
      show v (f r - 1 + 1) * bt (f r = f r - 1 + 1) = v (f r)
      rw [bt_1 (by omega), Int.mul_one, show f r - 1 + 1 = f r by omega]
    rw [e1, sum_add, ← ih, e2, sumZ]
theorem cnt_nul {P : Nat → Prop} : ∀ k, (∀ i, i < k → ¬ P i) → cntZ P k = 0
  | 0, _ => rfl
  | k + 1, h => by rw [cntZ_n (h k (by omega))]; exact cnt_nul k (fun i hi => h i (by omega))
theorem cnt_le1 {f : Nat → Nat} {x : Nat} : ∀ r, (∀ i j, i < r → j < r → f i = f j → i = j) → cntZ (fun i => f i = x) r ≤ 1
  | 0, _ => by rw [cntZ]; decide
  | r + 1, h => by
    by_cases e : f r = x
    · rw [cntZ_y (by exact e), cnt_nul r (fun i hi z => by have := h i r (by omega) (by omega) (by rw [e]; exact z); omega)]
      decide
    · rw [cntZ_n (by exact e)]
      exact cnt_le1 r (fun i j hi hj => h i j (by omega) (by omega))
theorem cnt_ge1 {P : Nat → Prop} {j : Nat} (hp : P j) : ∀ r, j < r → 1 ≤ cntZ P r
  | 0, h => absurd h (Nat.not_lt_zero _)
  | r + 1, h => by
    by_cases e : j = r
    · subst e
      have := cntZ_r P j
      rw [cntZ_y hp]
      omega
    · have := cnt_ge1 hp r (by omega)
      rcases bt_01 (P r) with z | z <;> rw [cntZ, z] <;> omega
theorem hung_opt {C : Nat → Nat → Int} {rw_ cl : Nat} {U V : Nat → Int} {m cm f : Nat → Nat} (hP : HP C rw_ cl U V m) (hN : HN cl rw_ m) (hcm : ∀ i, i < rw_ → 1 ≤ cm i ∧ cm i ≤ cl ∧ m (cm i) = i + 1) (hf : ∀ i, i < rw_ → 1 ≤ f i ∧ f i ≤ cl) (hfi : ∀ i j, i < rw_ → j < rw_ → f i = f j → i = j) : sumZ (fun i => C (i + 1) (cm i)) rw_ ≤ sumZ (fun i => C (i + 1) (f i)) rw_ := by
  have a1 : sumZ (fun i => C (i + 1) (cm i)) rw_ = sumZ (fun i => U (i + 1)) rw_ + sumZ (fun i => V (cm i)) rw_ := by
    rw [← sum_add]
    refine sumZ_congr rw_ (fun i hi => ?_)
    obtain ⟨h1, h2, h3⟩ := hcm i hi
    have := hP.ti (cm i) h1 h2 (by omega)
    rw [h3] at this
    exact this.symm
  have a2 : sumZ (fun i => U (i + 1)) rw_ + sumZ (fun i => V (f i)) rw_ ≤ sumZ (fun i => C (i + 1) (f i)) rw_ := by
    rw [← sum_add]
    refine sum_le rw_ (fun i hi => ?_)
    obtain ⟨h1, h2⟩ := hf i hi
    exact hP.fe (i + 1) (f i) (by omega) (by omega) h1 h2
  have a3 : sumZ (fun i => V (cm i)) rw_ = sumZ (fun c => V (c + 1)) cl := by
    rw [sum_cols rw_ (fun i hi => ⟨(hcm i hi).1, (hcm i hi).2.1⟩)]
    refine sumZ_congr cl (fun c hc => ?_)
    show V (c + 1) * cntZ (fun i => cm i = c + 1) rw_ = V (c + 1)
    by_cases z : m (c + 1) = 0
    · rw [hP.v0 (c + 1) (by omega) (by omega) z, Int.zero_mul]
    · have hle := hN.le (c + 1) (by omega) (by omega)
      have hlt : m (c + 1) - 1 < rw_ := by omega
      have h3 := hcm (m (c + 1) - 1) hlt
      have e : cm (m (c + 1) - 1) = c + 1 := hN.ij _ _ h3.1 h3.2.1 (by omega) (by omega) (by omega) (by omega)
      have g1 := cnt_ge1 (P := fun i => cm i = c + 1) (j := m (c + 1) - 1) e rw_ hlt
      have g2 := cnt_le1 (f := cm) (x := c + 1) rw_ (fun i j hi hj e => by have x := (hcm i hi).2.2; have y := (hcm j hj).2.2; rw [e] at x; omega)
      rw [show cntZ (fun i => cm i = c + 1) rw_ = 1 by omega, Int.mul_one]
  have a4 : sumZ (fun c => V (c + 1)) cl ≤ sumZ (fun i => V (f i)) rw_ := by
    rw [sum_cols rw_ hf]
    refine sum_le cl (fun c hc => ?_)
    show V (c + 1) ≤ V (c + 1) * cntZ (fun i => f i = c + 1) rw_
    have g0 := cntZ_r (fun i => f i = c + 1) rw_
    have g2 := cnt_le1 (f := f) (x := c + 1) rw_ hfi
    have hv := hP.vl (c + 1) (by omega) (by omega)
    rcases (show cntZ (fun i => f i = c + 1) rw_ = 0 ∨ cntZ (fun i => f i = c + 1) rw_ = 1 by omega) with e | e <;> rw [e]
    · rw [Int.mul_zero]; exact hv
    · rw [Int.mul_one]; exact Int.le_refl _
  omega
