/-! weights, the likeliest mother, families -/
def fsN : Nat → Int → Nat
  | 0, _ => 0
  | f + 1, l => if 0 < l then fsN f (l / 2) + 1 else 0
theorem fsN_le : ∀ f l, fsN f l ≤ f
  | 0, _ => Nat.le_refl _
  | f + 1, l => by
    rw [fsN]
    split
    · exact Nat.succ_le_succ (fsN_le f _)
    · omega
theorem fsN_y {s : Nat} {l : Int} (hs : s < 7) (hl : 0 < l) : fsN (7 - s) l = fsN (7 - (s + 1)) (l / 2) + 1 := by
  obtain ⟨m, hm⟩ : ∃ m, 7 - s = m + 1 := ⟨6 - s, by omega⟩
  rw [hm, show 7 - (s + 1) = m by omega, fsN, if_pos hl]
theorem fsN_n {s : Nat} {l : Int} (h : l ≤ 0 ∨ 7 ≤ s) : fsN (7 - s) l = 0 := by
  rcases Nat.lt_or_ge s 7 with c | c
  · obtain ⟨m, hm⟩ : ∃ m, 7 - s = m + 1 := ⟨6 - s, by omega⟩
    rw [hm, fsN, if_neg (by omega)]
  · rw [show 7 - s = 0 by omega, fsN]
def farZ (a b c e : Int) : Int := max (if 0 ≤ a - c then a - c else -(a - c)) (if 0 ≤ b - e then b - e else -(b - e))
theorem farZ_b {a b c e : Int} (ha : 0 ≤ a ∧ a ≤ 15) (hb : 0 ≤ b ∧ b ≤ 15) (hc : 0 ≤ c ∧ c ≤ 15) (he : 0 ≤ e ∧ e ≤ 15) : 0 ≤ farZ a b c e ∧ farZ a b c e ≤ 15 := by
  unfold farZ
  split <;> split <;> omega
theorem farZ_comm (a b c e : Int) : farZ a b c e = farZ c e a b := by
  unfold farZ
  congr 1 <;> split <;> split <;> omega
def wgt (pr fa sp : Nat → Int) (q : Nat → Nat → Int) (i : Nat) (x y d : Int) : Int := pr ((q 4 i / 10).toNat) * fa (fsN 7 (d - q 1 i)) * sp ((min 7 (farZ x y (q 2 i) (q 3 i))).toNat)
def okS (pr fa sp : Nat → Int) : Prop := (∀ k, k < 10 → 0 ≤ pr k ∧ pr k ≤ 100) ∧ (∀ k, k < 8 → 0 ≤ fa k ∧ fa k ≤ 100) ∧ (∀ k, k < 8 → 0 ≤ sp k ∧ sp k ≤ 100)
theorem mul_b {a b : Int} {A B : Int} (ha : 0 ≤ a ∧ a ≤ A) (hb : 0 ≤ b ∧ b ≤ B) : 0 ≤ a * b ∧ a * b ≤ A * B := ⟨Int.mul_nonneg ha.1 hb.1, Int.mul_le_mul ha.2 hb.2 hb.1 (by omega)⟩
theorem wgt_b {pr fa sp : Nat → Int} {q : Nat → Nat → Int} {n i : Nat} {o : Nat → Nat} (hS : okS pr fa sp) (hO : okQ n q o) (hi : i < n) (x y d : Int) : 0 ≤ wgt pr fa sp q i x y d ∧ wgt pr fa sp q i x y d ≤ 1000000 := by
  have hg := hO.g i hi
  have h1 := hS.1 ((q 4 i / 10).toNat) (by omega)
  have h2 := hS.2.1 (fsN 7 (d - q 1 i)) (by have := fsN_le 7 (d - q 1 i); omega)
  have h3 := hS.2.2 ((min 7 (farZ x y (q 2 i) (q 3 i))).toNat) (by omega)
  have h4 := mul_b h1 h2
  have h5 := mul_b h4 h3
  unfold wgt
  omega
/-- the weight of the quake at place r for that at place p -/
def wpl (pr fa sp : Nat → Int) (q : Nat → Nat → Int) (o : Nat → Nat) (p r : Nat) : Int := wgt pr fa sp q (o r) (q 2 (o p)) (q 3 (o p)) (q 1 (o p))
theorem wpl_b {pr fa sp : Nat → Int} {q : Nat → Nat → Int} {n r : Nat} {o : Nat → Nat} (hS : okS pr fa sp) (hO : okQ n q o) (p : Nat) (hr : r < n) : 0 ≤ wpl pr fa sp q o p r ∧ wpl pr fa sp q o p r ≤ 1000000 := wgt_b hS hO (hO.o r hr) _ _ _
noncomputable def lik (pr fa sp : Nat → Int) (q : Nat → Nat → Int) (o : Nat → Nat) (b calm : Int) (p : Nat) : Nat → Int × Int
  | 0 => (-6, calm)
  | r + 1 => by classical exact if cnd q (-1) b (o r) ∧ (lik pr fa sp q o b calm p r).2 < wpl pr fa sp q o p r then (((o r : Nat) : Int), wpl pr fa sp q o p r) else lik pr fa sp q o b calm p r
theorem lik_y {pr fa sp : Nat → Int} {q : Nat → Nat → Int} {o : Nat → Nat} {b calm : Int} {p r : Nat} (h1 : cnd q (-1) b (o r)) (h2 : (lik pr fa sp q o b calm p r).2 < wpl pr fa sp q o p r) : lik pr fa sp q o b calm p (r + 1) = (((o r : Nat) : Int), wpl pr fa sp q o p r) := by
  rw [lik]
  simp [h1, h2]
theorem lik_n {pr fa sp : Nat → Int} {q : Nat → Nat → Int} {o : Nat → Nat} {b calm : Int} {p r : Nat} (h : ¬ (cnd q (-1) b (o r) ∧ (lik pr fa sp q o b calm p r).2 < wpl pr fa sp q o p r)) : lik pr fa sp q o b calm p (r + 1) = lik pr fa sp q o b calm p r := by
  rw [lik]
  simp [h]
theorem lik_b {pr fa sp : Nat → Int} {q : Nat → Nat → Int} {o : Nat → Nat} {b calm : Int} {n p : Nat} (hS : okS pr fa sp) (hO : okQ n q o) (hc : 1 ≤ calm ∧ calm ≤ 100000) : ∀ r, r ≤ n → (1 ≤ (lik pr fa sp q o b calm p r).2 ∧ (lik pr fa sp q o b calm p r).2 ≤ 1000000) ∧ ((lik pr fa sp q o b calm p r).1 = -6 ∨ ∃ r', r' < r ∧ cnd q (-1) b (o r') ∧ (lik pr fa sp q o b calm p r).1 = ((o r' : Nat) : Int))
  | 0, _ => ⟨by rw [lik]; omega, Or.inl rfl⟩
  | r + 1, hr => by
    have h := lik_b (pr := pr) (fa := fa) (sp := sp) (b := b) (p := p) hS hO hc r (by omega)
    by_cases c : cnd q (-1) b (o r) ∧ (lik pr fa sp q o b calm p r).2 < wpl pr fa sp q o p r
    · rw [lik_y c.1 c.2]
      have := wpl_b (p := p) hS hO (r := r) (by omega)
      refine ⟨by have := c.2; omega, Or.inr ⟨r, Nat.lt_succ_self r, c.1, rfl⟩⟩
    · rw [lik_n c]
      refine ⟨h.1, h.2.imp id ?_⟩
      rintro ⟨r', h1, h2⟩
      exact ⟨r', Nat.lt_succ_of_lt h1, h2⟩
/-- the place of the mother's bound, as a number -/
theorem lik_i {pr fa sp : Nat → Int} {q : Nat → Nat → Int} {o : Nat → Nat} {b calm : Int} {n p r : Nat} (hS : okS pr fa sp) (hO : okQ n q o) (hc : 1 ≤ calm ∧ calm ≤ 100000) (hr : r ≤ n) : (lik pr fa sp q o b calm p r).1 = -6 ∨ (0 ≤ (lik pr fa sp q o b calm p r).1 ∧ (lik pr fa sp q o b calm p r).1 < (n : Int)) := by
  rcases (lik_b (p := p) (b := b) hS hO hc r hr).2 with h | ⟨r', h1, -, h3⟩
  · exact Or.inl h
  · have := hO.o r' (by omega)
    exact Or.inr (by omega)
noncomputable def trF (pr fa sp : Nat → Int) (q : Nat → Nat → Int) (o : Nat → Nat) (b calm : Int) (fo de : Nat → Int) : Nat → (Nat → Int) × (Nat → Int)
  | 0 => (fo, de)
  | k + 1 => by classical exact if cnd q (-1) b (o k) then
      (fup (fup (trF pr fa sp q o b calm fo de k).1 (o k) (-6)) (o k) (if (lik pr fa sp q o b calm k k).1 = -6 then ((o k : Nat) : Int) else fup (trF pr fa sp q o b calm fo de k).1 (o k) (-6) ((lik pr fa sp q o b calm k k).1.toNat)),
       fup (fup (trF pr fa sp q o b calm fo de k).2 (o k) 0) (o k) (if (lik pr fa sp q o b calm k k).1 = -6 then 0 else fup (trF pr fa sp q o b calm fo de k).2 (o k) 0 ((lik pr fa sp q o b calm k k).1.toNat) + 1))
      else (fup (trF pr fa sp q o b calm fo de k).1 (o k) (-6), fup (trF pr fa sp q o b calm fo de k).2 (o k) 0)
theorem trF_y {pr fa sp : Nat → Int} {q : Nat → Nat → Int} {o : Nat → Nat} {b calm : Int} {fo de : Nat → Int} {k : Nat} (h : cnd q (-1) b (o k)) : trF pr fa sp q o b calm fo de (k + 1) = (fup (fup (trF pr fa sp q o b calm fo de k).1 (o k) (-6)) (o k) (if (lik pr fa sp q o b calm k k).1 = -6 then ((o k : Nat) : Int) else fup (trF pr fa sp q o b calm fo de k).1 (o k) (-6) ((lik pr fa sp q o b calm k k).1.toNat)),
       fup (fup (trF pr fa sp q o b calm fo de k).2 (o k) 0) (o k) (if (lik pr fa sp q o b calm k k).1 = -6 then 0 else fup (trF pr fa sp q o b calm fo de k).2 (o k) 0 ((lik pr fa sp q o b calm k k).1.toNat) + 1)) := by
  rw [trF]; simp [h]
theorem trF_n {pr fa sp : Nat → Int} {q : Nat → Nat → Int} {o : Nat → Nat} {b calm : Int} {fo de : Nat → Int} {k : Nat} (h : ¬ cnd q (-1) b (o k)) : trF pr fa sp q o b calm fo de (k + 1) = (fup (trF pr fa sp q o b calm fo de k).1 (o k) (-6), fup (trF pr fa sp q o b calm fo de k).2 (o k) 0) := by
  rw [trF]; simp [h]
/-- the first one for which R holds -/
noncomputable def srch (R : Nat → Prop) (v : Nat → Int) : Nat → Int
  | 0 => -6
  | k + 1 => ifZ (srch R v k = -6 ∧ R k) (v k) (srch R v k)
theorem srch_no {R : Nat → Prop} {v : Nat → Int} : ∀ k, (∀ r, r < k → ¬ R r) → srch R v k = -6
  | 0, _ => rfl
  | k + 1, h => by
    rw [srch, ifZ_n (fun z => h k (Nat.lt_succ_self k) z.2)]
    exact srch_no k (fun r hr => h r (Nat.lt_succ_of_lt hr))
theorem srch_at {R : Nat → Prop} {v : Nat → Int} {k : Nat} (h : ∀ r, r < k → ¬ R r) (hk : R k) (hv : 0 ≤ v k) : ∀ m, k < m → srch R v m = v k
  | 0, hm => by omega
  | m + 1, hm => by
    by_cases e : k = m
    · subst e
      rw [srch, ifZ_y ⟨srch_no k h, hk⟩]
    · have := srch_at h hk hv m (by omega)
      rw [srch, this, ifZ_n (fun z => by have := z.1; omega)]
theorem srch_congr {R R' : Nat → Prop} {v : Nat → Int} : ∀ k, (∀ r, r < k → (R r ↔ R' r)) → srch R v k = srch R' v k
  | 0, _ => rfl
  | k + 1, h => by
    rw [srch, srch, srch_congr k (fun r hr => h r (Nat.lt_succ_of_lt hr))]
    exact ifZ_iff ⟨fun z => ⟨z.1, (h k (Nat.lt_succ_self k)).mp z.2⟩, fun z => ⟨z.1, (h k (Nat.lt_succ_self k)).mpr z.2⟩⟩
noncomputable def dpF (F D : Nat → Int) (f : Int) : Nat → Int
  | 0 => 0
  | k + 1 => ifZ (F k = f) (max (dpF F D f k) (D k)) (dpF F D f k)
noncomputable def mvF (c : Nat → Prop) (s : Int) : Nat → Int
  | 0 => s
  | k + 1 => ifZ (c k) (mvF c s k * 16807 % 2147483647) (mvF c s k)
theorem mvF_b {c : Nat → Prop} {s : Int} (hs : 0 ≤ s ∧ s ≤ 2147483647) : ∀ k, 0 ≤ mvF c s k ∧ mvF c s k ≤ 2147483647
  | 0 => hs
  | k + 1 => by
    have h := mvF_b (c := c) hs k
    by_cases z : c k
    · rw [mvF, ifZ_y z]; omega
    · rw [mvF, ifZ_n z]; exact h
theorem tmod_r {a b : Int} (ha : 0 ≤ a) (hb : 0 < b) : 0 ≤ Int.tmod a b ∧ Int.tmod a b < b := by
  rw [Int.tmod_eq_emod_of_nonneg ha]
  exact ⟨Int.emod_nonneg a (by omega), Int.emod_lt_of_pos a hb⟩
theorem swl_b {pr fa sp : Nat → Int} {q : Nat → Nat → Int} {o : Nat → Nat} {n p : Nat} {b : Int} (hS : okS pr fa sp) (hO : okQ n q o) : ∀ r, r ≤ n → 0 ≤ sumZ (fun r => ifZ (cnd q (-1) b (o r)) (wpl pr fa sp q o p r) 0) r ∧ sumZ (fun r => ifZ (cnd q (-1) b (o r)) (wpl pr fa sp q o p r) 0) r ≤ 40000000 := by
  intro r hr
  have h := sumZ_b (f := fun r => ifZ (cnd q (-1) b (o r)) (wpl pr fa sp q o p r) 0) (lo := 0) (hi := 1000000) r (fun j hj => by
    have h1 := wpl_b (p := p) hS hO (r := j) (by omega)
    by_cases c : cnd q (-1) b (o j)
    · rw [ifZ_y c]; exact h1
    · rw [ifZ_n c]; omega)
  have := hO.1
  omega
/-- if the lot is spent at no place, then nowhere further on -/
theorem swl_no {pr fa sp : Nat → Int} {q : Nat → Nat → Int} {o : Nat → Nat} {n p k : Nat} {b L : Int} (hS : okS pr fa sp) (hO : okQ n q o) (hp : p < n) (hno : ∀ r, r < k → ¬ (0 ≤ L - sumZ (fun r => ifZ (cnd q (-1) b (o r)) (wpl pr fa sp q o p r) 0) r ∧ L - sumZ (fun r => ifZ (cnd q (-1) b (o r)) (wpl pr fa sp q o p r) 0) (r + 1) < 0)) (hk : p ≤ k ∨ L - sumZ (fun r => ifZ (cnd q (-1) b (o r)) (wpl pr fa sp q o p r) 0) k < 0) : ∀ r, r < p → ¬ (0 ≤ L - sumZ (fun r => ifZ (cnd q (-1) b (o r)) (wpl pr fa sp q o p r) 0) r ∧ L - sumZ (fun r => ifZ (cnd q (-1) b (o r)) (wpl pr fa sp q o p r) 0) (r + 1) < 0) := by
  have mono : ∀ m r, r ≤ m → m ≤ p → sumZ (fun r => ifZ (cnd q (-1) b (o r)) (wpl pr fa sp q o p r) 0) r ≤ sumZ (fun r => ifZ (cnd q (-1) b (o r)) (wpl pr fa sp q o p r) 0) m := by
    intro m
    induction m with
    | zero => intro r hr _; rw [show r = 0 by omega]; exact Int.le_refl _
    | succ m ih =>
      intro r hr hm
      by_cases e : r = m + 1
      · rw [e]; exact Int.le_refl _
      · have h1 := ih r (by omega) (by omega)
        have h2 := wpl_b (p := p) hS hO (r := m) (by omega)
        rw [sumZ]
        by_cases c : cnd q (-1) b (o m)
        · rw [ifZ_y c]; omega
        · rw [ifZ_n c]; omega
  intro r hr z
  by_cases c : r < k
  · exact hno r c z
  · rcases hk with hk | hk
    · omega
    · have := mono r k (by omega) (by omega)
      omega
