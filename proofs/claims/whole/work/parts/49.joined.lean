/-! both sides join alike -/
def csA (X : Nat → Nat → Int) (a : Nat → Nat) (i : Nat) : Int := if a i = 12 then 23298085122481000 + 12 * ((dgP (i + 1) : Nat) : Int) else X i (a i) * 23298085122481 + ((a i : Nat) : Int) * ((dgP (i + 1) : Nat) : Int)
theorem cs_vs {X : Nat → Nat → Int} {a : Nat → Nat} {ma : Nat} : ∀ r, r ≤ ma → sumZ (csA X a) ma = sumZ (csA X a) (ma - r) + vs X a ma r
  | 0, _ => by unfold vs; rw [jn, mn, dg, Nat.sub_zero]; omega
  | r + 1, hr => by
    have ih := cs_vs (X := X) (a := a) (ma := ma) r (by omega)
    rw [show ma - r = ma - (r + 1) + 1 by omega, sumZ] at ih
    rw [ih]
    unfold vs csA
    rw [jn, mn, dg]
    by_cases c : a (ma - (r + 1)) = 12
    · rw [if_pos c, if_pos c, if_pos c, c]
      generalize sumZ _ _ = s
      omega
    · rw [if_neg c, if_neg c, if_neg c]
      generalize sumZ _ _ = s
      generalize ((a (ma - (r + 1)) : Nat) : Int) * ((dgP (ma - (r + 1) + 1) : Nat) : Int) = d
      omega
theorem cs_all {X : Nat → Nat → Int} {a : Nat → Nat} {ma : Nat} : sumZ (csA X a) ma = vs X a ma ma := by
  rw [cs_vs ma (Nat.le_refl _), Nat.sub_self, sumZ]
  omega
theorem sum_ge {f : Nat → Int} {j : Nat} : ∀ k, j < k → (∀ i, i < k → 0 ≤ f i) → 0 ≤ sumZ f k ∧ f j ≤ sumZ f k
  | 0, h, _ => absurd h (Nat.not_lt_zero _)
  | k + 1, h, hp => by
    have h0 : 0 ≤ sumZ f k := by
      have := sumZ_b (f := fun _ => 0) (lo := 0) (hi := 0) k (fun _ _ => by decide)
      have := sum_le (f := fun _ => 0) (g := f) k (fun i hi => hp i (by omega))
      omega
    have hk := hp k (by omega)
    rw [sumZ]
    by_cases e : j = k
    · subst e; omega
    · have := sum_ge k (show j < k by omega) (fun i hi => hp i (by omega))
      omega
theorem join_m {X C : Nat → Nat → Int} {ma mb : Nat} {U V : Nat → Int} {m : Nat → Nat} (hX : ∀ i j, -1 ≤ X i j ∧ X i j ≤ 35) (hm : ma ≤ 12) (hb : mb ≤ 12) (hC : ∀ i, 1 ≤ i → i ≤ ma → ∀ j, 1 ≤ j → j ≤ mb + ma → C i j = kst X mb i j) (hP : HP C ma (mb + ma) U V m) (hN : HN (mb + ma) ma m) : ∀ i c, i < ma → c < mb → (m (c + 1) = i + 1 ↔ ch X ma mb i = c) := by
  have hX2 : ∀ i j, X i j ≤ 35 := fun i j => (hX i j).2
  have hv := ch_va (ma := ma) (mb := mb) hX2 hb
  obtain ⟨cm, hcm⟩ : ∃ cm : Nat → Nat, ∀ i, i < ma → 1 ≤ cm i ∧ cm i ≤ mb + ma ∧ m (cm i) = i + 1 := by
    have h : ∀ i, ∃ j, i < ma → 1 ≤ j ∧ j ≤ mb + ma ∧ m j = i + 1 := fun i => by
      by_cases c : i < ma
      · obtain ⟨j, h1, h2, h3⟩ := hN.su (i + 1) (by omega) (by omega)
        exact ⟨j, fun _ => ⟨h1, h2, h3⟩⟩
      · exact ⟨0, fun z => absurd z c⟩
    exact ⟨fun i => Classical.choose (h i), fun i hi => Classical.choose_spec (h i) hi⟩
  have hch : ∀ i, i < ma → ch X ma mb i = 12 ∨ (ch X ma mb i < mb ∧ 0 ≤ X i (ch X ma mb i)) := hv.1
  have hopt := hung_opt (f := fun i => if ch X ma mb i = 12 then mb + 1 + i else ch X ma mb i + 1) hP hN hcm (by
    intro i hi
    show 1 ≤ (if ch X ma mb i = 12 then mb + 1 + i else ch X ma mb i + 1) ∧ (if ch X ma mb i = 12 then mb + 1 + i else ch X ma mb i + 1) ≤ mb + ma
    rcases hch i hi with z | z
    · rw [if_pos z]; omega
    · have := z.1
      rw [if_neg (by omega)]
      omega) (by
    intro i j hi hj
    show (if ch X ma mb i = 12 then mb + 1 + i else ch X ma mb i + 1) = (if ch X ma mb j = 12 then mb + 1 + j else ch X ma mb j + 1) → i = j
    intro e
    rcases hch i hi with z | z <;> rcases hch j hj with y | y
    · rw [if_pos z, if_pos y] at e; omega
    · have := y.1
      rw [if_pos z, if_neg (by omega)] at e
      omega
    · have := z.1
      rw [if_neg (by omega), if_pos y] at e
      omega
    · have := z.1
      have := y.1
      rw [if_neg (by omega), if_neg (by omega)] at e
      exact hv.2 i j hi hj (by omega) (by omega))
  have e1 : sumZ (fun i => C (i + 1) (if ch X ma mb i = 12 then mb + 1 + i else ch X ma mb i + 1)) ma = sumZ (csA X (ch X ma mb)) ma := by
    refine sumZ_congr ma (fun i hi => ?_)
    show C (i + 1) (if ch X ma mb i = 12 then mb + 1 + i else ch X ma mb i + 1) = csA X (ch X ma mb) i
    unfold csA
    rcases hch i hi with z | z
    · rw [if_pos z, if_pos z, hC (i + 1) (by omega) (by omega) _ (by omega) (by omega)]
      exact if_neg (by omega)
    · have z1 := z.1
      have z2 := z.2
      rw [if_neg (show ¬ ch X ma mb i = 12 by omega), if_neg (show ¬ ch X ma mb i = 12 by omega), hC (i + 1) (by omega) (by omega) _ (by omega) (by omega)]
      unfold kst
      rw [if_pos (by omega), show i + 1 - 1 = i from rfl, show ch X ma mb i + 1 - 1 = ch X ma mb i from rfl, if_neg (by omega), show ((ch X ma mb i + 1 : Nat) : Int) - 1 = ((ch X ma mb i : Nat) : Int) by omega]
  rw [e1] at hopt
  have hsm : sumZ (csA X (ch X ma mb)) ma ≤ 400000000000000000 := by
    have := sumZ_b (f := csA X (ch X ma mb)) (lo := 0) (hi := 30000000000000000) ma (fun i hi => by
      unfold csA
      have hd := dg_11 (i := i + 1) (by omega)
      rcases hch i hi with z | z
      · rw [if_pos z]; omega
      · have z1 := z.1
        have z2 := z.2
        have z3 := hX2 i (ch X ma mb i)
        rw [if_neg (by omega)]
        have hm1 : 0 ≤ ((ch X ma mb i : Nat) : Int) * ((dgP (i + 1) : Nat) : Int) := Int.mul_nonneg (by omega) (by omega)
        have hm2 : ((ch X ma mb i : Nat) : Int) * ((dgP (i + 1) : Nat) : Int) ≤ 12 * 1792160394037 := Int.mul_le_mul (by omega) (by omega) (by omega) (by decide)
        omega)
    omega
  have hcp : ∀ i, i < ma → 0 ≤ C (i + 1) (cm i) := fun i hi => by
    have h := hcm i hi
    have hh := hc_k hX hm hb hC
    exact (hh.c0 (i + 1) (cm i) (by omega) (by omega) h.1 h.2.1).1
  have hok : ∀ i, i < ma → cm i ≤ mb → 0 ≤ X i (cm i - 1) := by
    intro i hi hle
    rcases Int.lt_or_le (X i (cm i - 1)) 0 with z | z
    · exfalso
      have h := hcm i hi
      have a := (sum_ge (f := fun i => C (i + 1) (cm i)) ma hi hcp).2
      have b : C (i + 1) (cm i) = 1000000000000000000 := by
        rw [hC (i + 1) (by omega) (by omega) _ h.1 h.2.1]
        unfold kst
        rw [if_pos hle]
        exact if_pos z
      have a2 : C (i + 1) (cm i) ≤ sumZ (fun i => C (i + 1) (cm i)) ma := a
      omega
    · exact z
  have haM : ∀ i, (if cm i ≤ mb then cm i - 1 else 12) = (fun i => if cm i ≤ mb then cm i - 1 else 12) i := fun _ => rfl
  have hva : vA X ma mb (fun i => if cm i ≤ mb then cm i - 1 else 12) := by
    refine ⟨fun i hi => ?_, fun i j hi hj => ?_⟩
    · show (if cm i ≤ mb then cm i - 1 else 12) = 12 ∨ ((if cm i ≤ mb then cm i - 1 else 12) < mb ∧ 0 ≤ X i (if cm i ≤ mb then cm i - 1 else 12))
      have h := hcm i hi
      by_cases c : cm i ≤ mb
      · rw [if_pos c]; exact Or.inr ⟨by omega, hok i hi c⟩
      · rw [if_neg c]; exact Or.inl rfl
    · show (if cm i ≤ mb then cm i - 1 else 12) = (if cm j ≤ mb then cm j - 1 else 12) → (if cm i ≤ mb then cm i - 1 else 12) ≠ 12 → i = j
      have h := hcm i hi
      have g := hcm j hj
      by_cases c : cm i ≤ mb
      · rw [if_pos c]
        by_cases d : cm j ≤ mb
        · rw [if_pos d]
          intro e _
          have e2 : cm i = cm j := by omega
          have x := h.2.2
          rw [e2, g.2.2] at x
          omega
        · rw [if_neg d]
          intro e; omega
      · rw [if_neg c]
        intro _ z
        exact absurd rfl z
  have e2 : sumZ (fun i => C (i + 1) (cm i)) ma = sumZ (csA X (fun i => if cm i ≤ mb then cm i - 1 else 12)) ma := by
    refine sumZ_congr ma (fun i hi => ?_)
    show C (i + 1) (cm i) = csA X (fun i => if cm i ≤ mb then cm i - 1 else 12) i
    have h := hcm i hi
    rw [hC (i + 1) (by omega) (by omega) _ h.1 h.2.1]
    unfold csA kst
    show _ = if (if cm i ≤ mb then cm i - 1 else 12) = 12 then _ else X i (if cm i ≤ mb then cm i - 1 else 12) * 23298085122481 + (((if cm i ≤ mb then cm i - 1 else 12) : Nat) : Int) * ((dgP (i + 1) : Nat) : Int)
    by_cases c : cm i ≤ mb
    · have hk := hok i hi c
      rw [if_pos c, show i + 1 - 1 = i from rfl, if_neg (Int.not_lt.mpr hk), if_pos c, if_neg (show ¬ cm i - 1 = 12 by omega), show ((cm i : Nat) : Int) - 1 = ((cm i - 1 : Nat) : Int) by omega]
    · rw [if_neg c, if_neg c, if_pos rfl]
  rw [e2, cs_all, cs_all] at hopt
  have hall : ∀ i, i < ma → (if cm i ≤ mb then cm i - 1 else 12) = ch X ma mb i := by
    intro i hi
    rcases ch_best hX2 hm hb hva ma (Nat.le_refl _) (by rw [Nat.sub_self]; rfl) with z | z
    · exact z i (by omega) hi
    · omega
  intro i c hi hc
  have h := hcm i hi
  have ha := hall i hi
  constructor
  · intro e
    have e3 : cm i = c + 1 := hN.ij _ _ h.1 h.2.1 (by omega) (by omega) (by rw [h.2.2, e]) (by omega)
    rw [if_pos (by omega)] at ha
    omega
  · intro e
    by_cases d : cm i ≤ mb
    · rw [if_pos d] at ha
      rw [show c + 1 = cm i by omega]
      exact h.2.2
    · rw [if_neg d] at ha
      omega
