/-! the cheapest way to place rows: prices, slack, the path -/
theorem php (f : Nat → Nat) : ∀ t m, (∀ i, i < m → f i < t) → (∀ i j, i < m → j < m → f i = f j → i = j) → m ≤ t := by
  intro t
  induction t generalizing f with
  | zero => intro m h1 _; rcases Nat.eq_zero_or_pos m with e | e; omega; exact absurd (h1 0 e) (Nat.not_lt_zero _)
  | succ t ih =>
    intro m h1 h2
    by_cases c : ∃ i, i < m ∧ f i = t
    · obtain ⟨i0, hi0, he⟩ := c
      have := ih (fun i => if i = i0 then f (m - 1) else f i) (m - 1) (by
        intro i hi
        show (if i = i0 then f (m - 1) else f i) < t
        split
        · rename_i e
          have a := h1 (m - 1) (by omega)
          have b : f (m - 1) ≠ t := fun z => by have := h2 (m - 1) i0 (by omega) hi0 (by rw [z, he]); omega
          omega
        · rename_i e
          have a := h1 i (by omega)
          have b : f i ≠ t := fun z => e (h2 i i0 (by omega) hi0 (by rw [z, he]))
          omega) (by
        intro i j hi hj
        show (if i = i0 then f (m - 1) else f i) = (if j = i0 then f (m - 1) else f j) → i = j
        split <;> split <;> intro e
        · omega
        · have := h2 (m - 1) j (by omega) (by omega) e; omega
        · have := h2 i (m - 1) (by omega) (by omega) e; omega
        · exact h2 i j (by omega) (by omega) e)
      omega
    · have := ih f m (fun i hi => by have a := h1 i hi; have b : f i ≠ t := (fun z => c ⟨i, hi, z⟩); omega) h2
      omega
/-- what every price list keeps -/
def HP (C : Nat → Nat → Int) (rw_ cl : Nat) (u v : Nat → Int) (rn : Nat → Nat) : Prop := (∀ i j, 1 ≤ i → i ≤ rw_ → 1 ≤ j → j ≤ cl → u i + v j ≤ C i j) ∧ (∀ j, 1 ≤ j → j ≤ cl → rn j ≠ 0 → u (rn j) + v j = C (rn j) j) ∧ (∀ j, 1 ≤ j → j ≤ cl → v j ≤ 0) ∧ (∀ j, 1 ≤ j → j ≤ cl → rn j = 0 → v j = 0) ∧ (∀ i, 1 ≤ i → i ≤ rw_ → 0 ≤ u i)
theorem HP.fe {C : Nat → Nat → Int} {rw_ cl : Nat} {u v : Nat → Int} {rn : Nat → Nat} (h : HP C rw_ cl u v rn) : ∀ i j, 1 ≤ i → i ≤ rw_ → 1 ≤ j → j ≤ cl → u i + v j ≤ C i j := h.1
theorem HP.ti {C : Nat → Nat → Int} {rw_ cl : Nat} {u v : Nat → Int} {rn : Nat → Nat} (h : HP C rw_ cl u v rn) : ∀ j, 1 ≤ j → j ≤ cl → rn j ≠ 0 → u (rn j) + v j = C (rn j) j := h.2.1
theorem HP.vl {C : Nat → Nat → Int} {rw_ cl : Nat} {u v : Nat → Int} {rn : Nat → Nat} (h : HP C rw_ cl u v rn) : ∀ j, 1 ≤ j → j ≤ cl → v j ≤ 0 := h.2.2.1
theorem HP.v0 {C : Nat → Nat → Int} {rw_ cl : Nat} {u v : Nat → Int} {rn : Nat → Nat} (h : HP C rw_ cl u v rn) : ∀ j, 1 ≤ j → j ≤ cl → rn j = 0 → v j = 0 := h.2.2.2.1
theorem HP.u0 {C : Nat → Nat → Int} {rw_ cl : Nat} {u v : Nat → Int} {rn : Nat → Nat} (h : HP C rw_ cl u v rn) : ∀ i, 1 ≤ i → i ≤ rw_ → 0 ≤ u i := h.2.2.2.2
/-- who is placed -/
def HN (cl t : Nat) (rn : Nat → Nat) : Prop := (∀ j, 1 ≤ j → j ≤ cl → rn j ≤ t) ∧ (∀ j k, 1 ≤ j → j ≤ cl → 1 ≤ k → k ≤ cl → rn j = rn k → rn j ≠ 0 → j = k) ∧ (∀ i, 1 ≤ i → i ≤ t → ∃ j, 1 ≤ j ∧ j ≤ cl ∧ rn j = i)
theorem HN.le {cl t : Nat} {rn : Nat → Nat} (h : HN cl t rn) : ∀ j, 1 ≤ j → j ≤ cl → rn j ≤ t := h.1
theorem HN.ij {cl t : Nat} {rn : Nat → Nat} (h : HN cl t rn) : ∀ j k, 1 ≤ j → j ≤ cl → 1 ≤ k → k ≤ cl → rn j = rn k → rn j ≠ 0 → j = k := h.2.1
theorem HN.su {cl t : Nat} {rn : Nat → Nat} (h : HN cl t rn) : ∀ i, 1 ≤ i → i ≤ t → ∃ j, 1 ≤ j ∧ j ≤ cl ∧ rn j = i := h.2.2
def HC (C : Nat → Nat → Int) (rw_ pt cl : Nat) : Prop := (cl = pt + rw_) ∧ (rw_ ≤ 12) ∧ (cl ≤ 24) ∧ (∀ i j, 1 ≤ i → i ≤ rw_ → 1 ≤ j → j ≤ cl → 0 ≤ C i j ∧ C i j ≤ 1000000000000000000) ∧ (∀ i j, 1 ≤ i → i ≤ rw_ → pt < j → j ≤ cl → C i j ≤ 30000000000000000)
theorem HC.cl {C : Nat → Nat → Int} {rw_ pt cl : Nat} (h : HC C rw_ pt cl) : cl = pt + rw_ := h.1
theorem HC.r12 {C : Nat → Nat → Int} {rw_ pt cl : Nat} (h : HC C rw_ pt cl) : rw_ ≤ 12 := h.2.1
theorem HC.c24 {C : Nat → Nat → Int} {rw_ pt cl : Nat} (h : HC C rw_ pt cl) : cl ≤ 24 := h.2.2.1
theorem HC.c0 {C : Nat → Nat → Int} {rw_ pt cl : Nat} (h : HC C rw_ pt cl) : ∀ i j, 1 ≤ i → i ≤ rw_ → 1 ≤ j → j ≤ cl → 0 ≤ C i j ∧ C i j ≤ 1000000000000000000 := h.2.2.2.1
theorem HC.cn {C : Nat → Nat → Int} {rw_ pt cl : Nat} (h : HC C rw_ pt cl) : ∀ i j, 1 ≤ i → i ≤ rw_ → pt < j → j ≤ cl → C i j ≤ 30000000000000000 := h.2.2.2.2
theorem free_col {C : Nat → Nat → Int} {rw_ pt cl t : Nat} {rn : Nat → Nat} (hC : HC C rw_ pt cl) (hN : HN cl t rn) (ht : t < rw_) : ∃ j, pt < j ∧ j ≤ cl ∧ rn j = 0 := by
  by_cases c : ∃ j, pt < j ∧ j ≤ cl ∧ rn j = 0
  · exact c
  · exfalso
    have hcl := hC.cl
    have nz : ∀ i, i < rw_ → rn (pt + 1 + i) ≠ 0 := fun i hi z => c ⟨pt + 1 + i, by omega, by omega, z⟩
    have := php (fun i => rn (pt + 1 + i) - 1) t rw_ (by
      intro i hi
      have a := hN.le (pt + 1 + i) (by omega) (by omega)
      have b := nz i hi
      show rn (pt + 1 + i) - 1 < t
      omega) (by
      intro i j hi hj e
      have a := nz i hi
      have b := nz j hj
      have e2 : rn (pt + 1 + i) - 1 = rn (pt + 1 + j) - 1 := e
      have := hN.ij (pt + 1 + i) (pt + 1 + j) (by omega) (by omega) (by omega) (by omega) (by omega) a
      omega)
    omega
theorem hp_b {C : Nat → Nat → Int} {rw_ pt cl t : Nat} {u v : Nat → Int} {rn : Nat → Nat} (hC : HC C rw_ pt cl) (hN : HN cl t rn) (ht : t < rw_) (hP : HP C rw_ cl u v rn) : (∀ i, 1 ≤ i → i ≤ rw_ → 0 ≤ u i ∧ u i ≤ 30000000000000000) ∧ (∀ j, 1 ≤ j → j ≤ cl → -30000000000000000 ≤ v j ∧ v j ≤ 0) := by
  obtain ⟨f, hf1, hf2, hf3⟩ := free_col hC hN ht
  have hu : ∀ i, 1 ≤ i → i ≤ rw_ → 0 ≤ u i ∧ u i ≤ 30000000000000000 := by
    intro i h1 h2
    have a := hP.fe i f h1 h2 (by omega) hf2
    have b := hP.v0 f (by omega) hf2 hf3
    have d := hC.cn i f h1 h2 hf1 hf2
    have e := hP.u0 i h1 h2
    omega
  refine ⟨hu, fun j h1 h2 => ⟨?_, hP.vl j h1 h2⟩⟩
  by_cases z : rn j = 0
  · have := hP.v0 j h1 h2 z; omega
  · have a := hP.ti j h1 h2 z
    have b := hN.le j h1 h2
    have d := hu (rn j) (by omega) (by omega)
    have e := hC.c0 (rn j) j (by omega) (by omega) h1 h2
    omega
theorem rpU_n {re : Nat → Int} {rn : Nat → Nat} {u : Nat → Int} {b : Int} {i : Nat} : ∀ k, (∀ j, j < k → re j = 1 → rn j ≠ i) → rpU re rn u b k i = u i
  | 0, _ => rfl
  | k + 1, h => by
    have ih := rpU_n (re := re) (rn := rn) (u := u) (b := b) (i := i) k (fun j hj => h j (by omega))
    by_cases c : re k = 1
    · rw [← rp_uy c, fup_ne _ _ (fun z => h k (by omega) c z.symm)]; exact ih
    · rw [← rp_un c]; exact ih
theorem rpU_y {re : Nat → Int} {rn : Nat → Nat} {u : Nat → Int} {b : Int} {i : Nat} : ∀ k, (∀ j j', j < k → j' < k → re j = 1 → re j' = 1 → rn j = rn j' → j = j') → ∀ j, j < k → re j = 1 → rn j = i → rpU re rn u b k i = u i + b
  | 0, _, j, hj, _, _ => absurd hj (Nat.not_lt_zero _)
  | k + 1, h, j, hj, h1, h2 => by
    by_cases e : j = k
    · subst e
      subst h2
      rw [← rp_uy h1, fup_self, rpU_n j (fun m hm z1 z2 => by have := h m j (by omega) (by omega) z1 h1 z2; omega)]
    · have ih := rpU_y (u := u) (b := b) (i := i) k (fun m m' hm hm' => h m m' (by omega) (by omega)) j (by omega) h1 h2
      by_cases c : re k = 1
      · rw [← rp_uy c, fup_ne _ _ (fun z => by have := h j k (by omega) (by omega) h1 c (by rw [h2, z]); omega)]; exact ih
      · rw [← rp_un c]; exact ih
theorem nr_spec {re s : Nat → Int} : ∀ k, (nrF re s k = 0 ∧ ∀ j, 1 ≤ j → j ≤ k → ¬ re j = 0) ∨ (1 ≤ nrF re s k ∧ nrF re s k ≤ k ∧ re (nrF re s k) = 0 ∧ ∀ j, 1 ≤ j → j ≤ k → re j = 0 → s (nrF re s k) ≤ s j)
  | 0 => Or.inl ⟨rfl, fun j h1 h2 => by omega⟩
  | k + 1 => by
    by_cases c : re (k + 1) = 0 ∧ (nrF re s k = 0 ∨ s (k + 1) < s (nrF re s k))
    · rw [nrF_y c]
      refine Or.inr ⟨by omega, Nat.le_refl _, c.1, fun j h1 h2 h3 => ?_⟩
      by_cases e : j = k + 1
      · subst e; exact Int.le_refl _
      · rcases nr_spec (re := re) (s := s) k with ⟨a, b⟩ | ⟨a, b, d, f⟩
        · exact absurd h3 (b j h1 (by omega))
        · have := f j h1 (by omega) h3
          rcases c.2 with z | z <;> omega
    · rw [nrF_n c]
      rcases nr_spec (re := re) (s := s) k with ⟨a, b⟩ | ⟨a, b, d, f⟩
      · refine Or.inl ⟨a, fun j h1 h2 z => ?_⟩
        by_cases e : j = k + 1
        · subst e; exact c ⟨z, Or.inl a⟩
        · exact b j h1 (by omega) z
      · refine Or.inr ⟨a, by omega, d, fun j h1 h2 h3 => ?_⟩
        by_cases e : j = k + 1
        · subst e
          rcases Int.lt_or_le (s (k + 1)) (s (nrF re s k)) with z | z
          · exact absurd ⟨h3, Or.inr z⟩ c
          · exact z
        · exact f j h1 (by omega) h3
